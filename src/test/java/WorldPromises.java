/** Promises 19, 20, 29 to 37 and 46 at their bounds. */
final class WorldPromises {
    private static final Class<?> STATE = IllegalStateException.class;
    private static final Class<?> INDEX = IndexOutOfBoundsException.class;
    private static final Class<?> WRONG = IllegalArgumentException.class;
    private static final Class<?> UNSUPPORTED = UnsupportedOperationException.class;
    private static final Class<?> NOTHING = java.util.NoSuchElementException.class;

    private WorldPromises() {
    }

    static void all() {
        claimRole();
        claimSide();
        openWorlds();
        worlds();
        chanceOf();
        evilChance();
        knows();
        knowsAtFirst();
        bestVote();
        nobodyToVoteFor();
        leastLiars();
        oneWorldWithoutLiars();
        claimed();
        bluff();
        bluffOfOthers();
        meanWorlds();
        tooManyWays();
    }

    /** Seat 0 is evil and kills, 1 is told sides, 2 and 3 are without an act. */
    private static NightfallCouncil four() {
        return Table.game("ek5e", "gs6e", "g-0e", "g-0e");
    }

    private static void claimRole() {
        Doc.promise(19, "Claims a role of a seat.", "Returns how many claims there are.");
        NightfallCouncil x = four();
        for (int claims = 1; claims <= 40; claims++) {
            Due.is("how many", x.claimRole(claims % 4, claims / 4 % 4, 3 - claims % 4), claims);
        }
        Due.fails("one more", x, STATE, () -> x.claimRole(0, 0, 0));
        Due.fails("one more, of a side", x, STATE, () -> x.claimSide(0, 0, 'g'));
        x.gather();
        Table.list(x, true, true, Table.upTo(4), Table.upTo(4));
        Due.is("the first one of another game", x.claimRole(3, 3, 3), 1);
        for (int seat : new int[] {Integer.MIN_VALUE, -1, 4, Integer.MAX_VALUE}) {
            Due.fails("by no seat", x, INDEX, () -> x.claimRole(seat, 0, 0));
            Due.fails("of no seat", x, INDEX, () -> x.claimRole(0, seat, 0));
            Due.fails("no role", x, INDEX, () -> x.claimRole(0, 0, seat));
        }
        Due.is("refused ones are none", x.claimRole(0, 0, 0), 2);
    }

    private static void claimSide() {
        Doc.promise(20, "Claims a side of a seat.", "Returns how many claims there are.");
        NightfallCouncil x = four();
        for (int claims = 1; claims <= 40; claims++) {
            Due.is("how many", claims % 2 == 0 ? x.claimRole(0, 0, 0) : x.claimSide(claims % 4, 3, claims < 20 ? 'g' : 'e'),
                    claims);
        }
        Due.fails("one more", x, STATE, () -> x.claimSide(0, 0, 'g'));
        NightfallCouncil y = four();
        for (int sign = 0; sign < 300; sign++) {
            char side = (char) sign;
            if (side != 'g' && side != 'e') {
                Due.fails("no side", y, WRONG, () -> y.claimSide(0, 0, side));
            }
        }
        Due.is("refused ones are none", "" + y.claimSide(0, 0, 'g') + y.claimSide(0, 0, 'e'), "12");
    }

    private static void openWorlds() {
        Doc.promise(29, "Returns how many open worlds there are.", "Returns how many.");
        NightfallCouncil x = Table.deal(Table.roles("ek5e", "g-0e"), true, true, 1, 1, 1);
        Due.is("one way, one world", x.openWorlds(), 1);
        NightfallCouncil y = Table.game("ek0e", "gk1e", "gk2e", "gk3e", "gk4e", "gk5e");
        Due.is("all ways", y.openWorlds(), 720);
        for (int seat = 0; seat < 6; seat++) {
            y.act(seat, seat, 0);
        }
        y.night();
        Due.is("all cards are shown", "" + y.living() + y.openWorlds(), "01");
        NightfallCouncil z = Table.game("ek0e", "gk1e", "gk2e", "gk3e", "gk4e", "gk5e");
        int due = 720;
        for (int seat = 5; seat >= 3; seat--) {
            z.act(seat, seat, 0);
            z.night();
            due /= seat + 1;
            Due.is("one card more is shown", z.openWorlds(), due);
            z.dusk();
        }
    }

    private static void worlds() {
        Doc.promise(30, "Returns how many worlds a seat has.", "Returns how many.");
        NightfallCouncil x = four();
        Due.is("its own card", "" + x.worlds(0) + x.worlds(3), "66");
        x.act(1, 0, 0);
        x.night();
        Due.is("and what it was told", "" + x.worlds(0) + x.worlds(1), "62");
        x.slip(0, 2);
        Due.is("none", x.worlds(1), 0);
        x.slip(0, 1);
        Table.execute(x, 0, 2, 0, 1);
        Due.is("one is left", "" + x.worlds(1) + x.worlds(0), "12");
        for (int seat : new int[] {Integer.MIN_VALUE, -1, 4, 8, Integer.MAX_VALUE}) {
            Due.fails("no seat", x, INDEX, () -> x.worlds(seat));
        }
        NightfallCouncil y = Table.deal(Table.roles("g-0e"), true, true, new int[8]);
        Due.is("the last one of eight seats", y.worlds(7), 1);
    }

    private static void chanceOf() {
        Doc.promise(31, "Returns in how many worlds of a seat another one has a role.",
                "`other`: the other one, or the same", "Returns how many.");
        NightfallCouncil x = Table.roles("g-0e", "e-0e", "g-0e", "g-0e");
        Table.deal(x, true, true, 0, 0, 1, 2);
        Due.is("the same one has its card in all", "" + x.chanceOf(3, 3, 2) + "/" + x.worlds(3), "3/3");
        Due.is("and none else", "" + x.chanceOf(3, 3, 0) + x.chanceOf(3, 3, 1), "00");
        Due.is("others", "" + x.chanceOf(3, 0, 0) + x.chanceOf(3, 0, 1) + x.chanceOf(3, 0, 2), "210");
        Due.is("a role that the bag has not", x.chanceOf(0, 0, 3), 0);
        for (int none : new int[] {Integer.MIN_VALUE, -1, 4, Integer.MAX_VALUE}) {
            Due.fails("no seat", x, INDEX, () -> x.chanceOf(none, 0, 0));
            Due.fails("no other one", x, INDEX, () -> x.chanceOf(0, none, 0));
            Due.fails("no role", x, INDEX, () -> x.chanceOf(0, 0, none));
        }
        int all = 0;
        for (int role = 0; role < 4; role++) {
            all += x.chanceOf(0, 3, role);
        }
        Due.is("over all roles", all, x.worlds(0));
    }

    private static void evilChance() {
        Doc.promise(32, "Returns in how many worlds of a seat another one is evil.", "`other`: the other one, or the same",
                "Returns how many.");
        NightfallCouncil x = four();
        Due.is("the same one in none, or in all", "" + x.evilChance(1, 1) + x.evilChance(0, 0), "06");
        Due.is("others", "" + x.evilChance(1, 0) + x.evilChance(1, 2) + x.evilChance(1, 3) + x.evilChance(0, 1), "2220");
        x.act(1, 0, 0);
        x.night();
        Due.is("in all, or in none", "" + x.evilChance(1, 0) + x.evilChance(1, 3), "20");
        NightfallCouncil y = Table.deal(Table.roles("e-0e"), true, true, 0, 0, 0);
        Due.is("all are evil", "" + y.evilChance(0, 0) + y.evilChance(0, 2), "11");
    }

    private static void knows() {
        Doc.promise(33, "Returns what a seat knows of the side of another one at first, by its worlds.",
                "`other`: the other one, or the same", "Returns 'g', 'e', or '-' if there are both, or no worlds.");
        NightfallCouncil x = four();
        Due.is("both, and the same one", "" + x.knows(1, 0) + x.knows(1, 1) + x.knows(0, 0), "-ge");
        Due.is("one is evil, so all others are good", "" + x.knows(0, 1) + x.knows(0, 2) + x.knows(0, 3), "ggg");
        x.act(1, 2, 0);
        x.night();
        Due.is("good, and both", "" + x.knows(1, 2) + x.knows(1, 3), "g-");
        x.slip(0, 1);
        Due.is("evil, and good", "" + x.knows(1, 2) + x.knows(1, 3), "eg");
        x.slip(0, 9);
        Due.is("no worlds", "" + x.knows(1, 2) + x.knows(1, 1) + x.knows(1, 0), "---");
        x.mend();
        Table.execute(x, 1, 0, 1, 2);
        Due.is("one that is shown", "" + x.knows(3, 0) + x.knows(3, 1) + x.knows(1, 0), "ege");
    }

    private static void knowsAtFirst() {
        NightfallCouncil x = Table.game("ew5e", "gs4e", "g-0e", "g-0e");
        x.act(1, 0, 0);
        x.act(0, 0, 2);
        x.night();
        Due.is("0 was evil at first, 2 is now", "" + x.knows(1, 0) + x.knows(1, 2) + x.seat(2, 'c'), "eg0");
        NightfallCouncil y = Table.roles("e-0e", "g-0e", "g-0e");
        y.register(0, 'g', 1);
        Table.deal(y, true, true, 0, 1, 2);
        Due.is("by the card's own side", "" + y.knows(0, 0) + y.knows(0, 1), "eg");
        Due.is("evil in one world of two", "" + y.evilChance(1, 0) + y.worlds(1) + y.knows(1, 0) + y.knows(1, 2), "12--");
        NightfallCouncil z = Table.deal(Table.roles("g-0e", "e-0e"), true, true, 0, 0, 0, 0, 0, 0, 0, 1);
        Due.is("evil in one world of seven", "" + z.evilChance(0, 7) + z.worlds(0) + z.knows(0, 7), "17-");
        NightfallCouncil w = Table.deal(Table.roles("e-0e", "g-0e"), true, true, 0, 0, 0, 0, 0, 0, 0, 1);
        Due.is("good in one world of seven", "" + w.evilChance(0, 7) + w.worlds(0) + w.knows(0, 7), "67-");
    }

    private static void bestVote() {
        Doc.promise(34, "Returns for whom a seat should vote: the living other one that is evil in the most of its worlds, of "
                + "several the lowest.", "Returns the seat.");
        NightfallCouncil x = four();
        Due.is("of several the lowest other one", "" + x.bestVote(0) + x.bestVote(1) + x.bestVote(3), "100");
        x.act(1, 3, 0);
        x.night();
        x.slip(0, 1);
        Due.is("the one that is evil in the most", "" + x.bestVote(1) + x.bestVote(2), "30");
        x.dusk();
        x.act(0, 3, 0);
        x.night();
        x.slip(0, 0);
        Due.is("a living one", "" + x.bestVote(1) + x.bestVote(2) + x.bestVote(3), "000");
        NightfallCouncil y = Table.deal(Table.roles("gs5e", "e-0e", "g-0e"), true, true, 0, 0, 2, 2, 2, 2, 2, 1);
        y.act(0, 7, 0);
        y.act(1, 2, 0);
        y.night();
        Due.is("the last seat, and the first other one that can be evil", "" + y.bestVote(0) + y.bestVote(1) + y.bestVote(7),
                "700");
    }

    private static void nobodyToVoteFor() {
        NightfallCouncil x = Table.game("ek5e", "gk6e", "gk7e");
        x.act(0, 1, 0);
        x.act(1, 0, 0);
        x.night();
        Due.is("one is living", x.living(), 1);
        Due.fails("no living other one", x, NOTHING, () -> x.bestVote(2));
        Due.is("the living one, for the dead", "" + x.bestVote(0) + x.bestVote(1), "22");
        NightfallCouncil y = four();
        y.act(1, 0, 0);
        y.night();
        y.slip(0, 9);
        Due.fails("no world", y, NOTHING, () -> y.bestVote(1));
        Due.is("another seat has worlds", y.bestVote(2), 0);
        NightfallCouncil z = Table.game("ek5e", "gk6e", "gk7e");
        for (int seat = 0; seat < 3; seat++) {
            z.act(seat, seat, 0);
        }
        z.night();
        for (int seat = 0; seat < 3; seat++) {
            int dead = seat;
            Due.fails("nobody is living", z, NOTHING, () -> z.bestVote(dead));
        }
    }

    private static void leastLiars() {
        Doc.promise(35, "Returns how many liars there are at least, over all open worlds.", "Returns how many.");
        NightfallCouncil x = Table.deal(Table.roles("ek5e", "g-0e"), true, true, 0, 1, 1, 1, 1, 1, 1, 1);
        Due.is("no claims", x.leastLiars(), 0);
        for (int seat = 0; seat < 8; seat++) {
            x.claimSide(seat, seat, 'e');
            Due.is("one evil one at most", x.leastLiars(), seat);
        }
        for (int seat = 0; seat < 8; seat++) {
            x.claimSide(seat, seat, 'g');
        }
        Due.is("all of them", x.leastLiars(), 8);
        NightfallCouncil y = four();
        y.claimRole(1, 3, 2);
        Due.is("so in some world", y.leastLiars(), 0);
        y.act(0, 3, 0);
        y.night();
        Due.is("in no open one", y.leastLiars(), 1);
        y.claimRole(3, 3, 3);
        Due.is("what is shown is no lie", y.leastLiars(), 1);
    }

    /** Claims that are so in one world alone, for each world. */
    private static void oneWorldWithoutLiars() {
        for (int first = 0; first < 4; first++) {
            for (int second = 0; second < 4; second++) {
                for (int third = 0; third < 4; third++) {
                    boolean isWorld = first != second && first != third && second != third;
                    NightfallCouncil x = four();
                    x.claimRole(3, 0, first);
                    x.claimRole(3, 1, second);
                    x.claimRole(3, 2, third);
                    String world = " in the world " + first + second + third;
                    Due.is("least liars" + world, x.leastLiars(), isWorld ? 0 : 1);
                    Due.is("claimed" + world, x.claimed(3), isWorld ? 1 : 0);
                }
            }
        }
    }

    private static void claimed() {
        Doc.promise(36, "Returns in how many open worlds all claims of a seat are so.", "Returns how many.");
        NightfallCouncil x = four();
        Due.is("no claims, so all are", "" + x.claimed(0) + "/" + x.claimed(3), "24/24");
        x.claimRole(3, 0, 0);
        Due.is("one claim, of nobody else", "" + x.claimed(3) + "/" + x.claimed(0), "6/24");
        x.claimRole(3, 1, 1);
        Due.is("two claims", x.claimed(3), 2);
        x.claimSide(3, 2, 'g');
        Due.is("a third one that is so in both", x.claimed(3), 2);
        x.claimSide(3, 2, 'e');
        Due.is("none", x.claimed(3), 0);
        NightfallCouncil y = four();
        y.claimRole(0, 3, 3);
        y.act(0, 3, 0);
        y.night();
        Due.is("open worlds alone", "" + y.claimed(0) + "/" + y.claimed(1), "6/6");
    }

    private static void bluff() {
        Doc.promise(37, "Returns the lowest good role that a seat has in some open world in which all its claims of other "
                + "seats are so.", "Returns the role.");
        NightfallCouncil x = Table.roles("g-0e", "e-0e", "g-0e", "g-0e");
        Table.deal(x, true, true, 0, 1, 2, 3);
        Due.is("the first role", "" + x.bluff(0) + x.bluff(1), "00");
        x.claimRole(1, 0, 0);
        Due.is("the next good one", "" + x.bluff(1) + x.bluff(2), "20");
        x.claimRole(1, 2, 2);
        Due.is("the last one", x.bluff(1), 3);
        x.claimRole(1, 3, 3);
        Due.fails("the evil one alone is left", x, NOTHING, () -> x.bluff(1));
        x.claimRole(1, 3, 1);
        Due.fails("in no world", x, NOTHING, () -> x.bluff(1));
        NightfallCouncil y = Table.deal(Table.roles("e-0e", "e-0e"), true, true, 0, 1, 1);
        Due.fails("no good role", y, NOTHING, () -> y.bluff(0));
        NightfallCouncil z = Table.roles("e-0e", "e-0e", "e-0e", "e-0e", "e-0e", "e-0e", "e-0e", "e-0e", "e-0e", "g-0e");
        Table.deal(z, true, true, 0, 9, 9, 9);
        Due.is("the last of ten roles", "" + z.bluff(0) + z.bluff(3), "99");
    }

    private static void bluffOfOthers() {
        NightfallCouncil x = Table.roles("g-0e", "ek5e", "g-0e", "g-0e");
        Table.deal(x, true, true, 0, 1, 2, 3);
        x.claimRole(1, 1, 3);
        x.claimRole(1, 1, 1);
        Due.is("claims of itself are no matter", x.bluff(1), 0);
        x.claimRole(0, 2, 0);
        Due.is("nor those that others make", x.bluff(1), 0);
        x.act(1, 0, 0);
        x.night();
        Due.is("a shown card is another one's", "" + x.bluff(1) + x.bluff(3), "22");
        Due.fails("what is claimed is in no open world", x, NOTHING, () -> x.bluff(0));
        Table.execute(x, 1, 1, 2, 3);
        Due.fails("a shown evil one", x, NOTHING, () -> x.bluff(1));
        NightfallCouncil y = Table.roles("g-0e", "ek5e", "g-0e", "g-0e");
        Table.deal(y, true, true, 0, 1, 2, 3);
        y.act(1, 3, 0);
        y.night();
        Due.is("the last seat is shown", "" + y.bluff(0) + y.bluff(1) + y.bluff(2) + y.bluff(3), "0003");
        y.claimRole(0, 1, 0);
        y.claimRole(1, 0, 0);
        y.claimRole(2, 0, 2);
        y.claimRole(3, 2, 0);
        Due.is("claims in the open worlds", "" + y.bluff(0) + y.bluff(1) + y.bluff(2) + y.bluff(3), "2203");
    }

    private static void meanWorlds() {
        Doc.promise(46, "Returns the mean number of worlds of living seats.",
                "Returns the sum divided by their number, both converted to double.");
        NightfallCouncil x = Table.deal(Table.roles("g-0e"), true, true, 0, 0, 0);
        Due.is("one world for each", x.meanWorlds(), 1.0);
        NightfallCouncil y = Table.deal(Table.roles("ek5e", "gs6e", "g-0e", "g-0e"), true, true, 0, 1, 2, 2, 3);
        Due.is("12, 12, 24, 24, 12", y.meanWorlds(), 84.0 / 5.0);
        y.act(1, 0, 0);
        y.night();
        Due.is("12, 3, 24, 24, 12", y.meanWorlds(), 15.0);
        y.slip(0, 9);
        Due.is("12, 0, 24, 24, 12", y.meanWorlds(), 72.0 / 5.0);
        y.mend();
        y.dusk();
        y.act(0, 1, 0);
        y.night();
        Due.is("3, 6, 6, 3 of the living", y.meanWorlds(), (3.0 + 6.0 + 6.0 + 3.0) / 4.0);
        y.dusk();
        y.act(0, 4, 0);
        y.night();
        Due.is("of three", y.meanWorlds(), (1.0 + 2.0 + 2.0) / 3.0);
    }

    private static void tooManyWays() {
        NightfallCouncil x = Table.deal(Table.roles("ek0e", "gk1e", "gk2e", "gk3e"), true, true, 0, 0, 1, 1, 2, 2, 3, 3);
        Due.is("2520 ways", x.ways(), 2520L);
        countsNone(x);
        for (int seat = 2; seat < 8; seat++) {
            x.act(seat, seat, 0);
        }
        x.night();
        Due.is("cards that are shown change nothing of it", x.living(), 2);
        countsNone(x);
    }

    private static void countsNone(NightfallCouncil x) {
        Due.fails("openWorlds", x, UNSUPPORTED, x::openWorlds);
        Due.fails("worlds", x, UNSUPPORTED, () -> x.worlds(0));
        Due.fails("chanceOf", x, UNSUPPORTED, () -> x.chanceOf(0, 7, 0));
        Due.fails("evilChance", x, UNSUPPORTED, () -> x.evilChance(0, 7));
        Due.fails("knows", x, UNSUPPORTED, () -> x.knows(0, 7));
        Due.fails("bestVote", x, UNSUPPORTED, () -> x.bestVote(0));
        Due.fails("leastLiars", x, UNSUPPORTED, x::leastLiars);
        Due.fails("claimed", x, UNSUPPORTED, () -> x.claimed(0));
        Due.fails("bluff", x, UNSUPPORTED, () -> x.bluff(0));
        Due.fails("meanWorlds", x, UNSUPPORTED, x::meanWorlds);
    }
}
