/** Promises 19, 20, 29 to 37 and 46: claims, and worlds. */
public final class WorldTest {
    private static final Class<?> NONE = IndexOutOfBoundsException.class;
    private static final Class<?> MANY = UnsupportedOperationException.class;
    private static final Class<?> NOTHING = java.util.NoSuchElementException.class;
    private static final int[] NO_SEATS = {-1, 4, 8, Integer.MIN_VALUE, Integer.MAX_VALUE};

    public static void main(String[] args) {
        promise19ClaimRole();
        promise20ClaimSide();
        promise29OpenWorlds();
        shownWhileUnchanged();
        promise30Worlds();
        drunkWorlds();
        licensedWorlds();
        neighbourWorlds();
        changedTellings();
        promise31ChanceOf();
        promise32EvilChance();
        promise33Knows();
        promise34BestVote();
        promise35LeastLiars();
        promise36Claimed();
        promise37Bluff();
        promise46MeanWorlds();
        wrongSeats();
        tooManyWays();
        Due.end("WorldTest");
    }

    /** Seats: a killer, one that is told sides, one that is told roles, one without an act. */
    private static NightfallCouncil four() {
        return Table.game("ek5e", "gs6e", "gl6e", "g-0e");
    }

    private static void promise19ClaimRole() {
        NightfallCouncil x = four();
        for (int seat : NO_SEATS) {
            Due.fails("nobody claims", x, NONE, () -> x.claimRole(seat, 0, 0));
            Due.fails("of nobody", x, NONE, () -> x.claimRole(0, seat, 0));
            Due.fails("no role", x, NONE, () -> x.claimRole(0, 0, seat));
        }
        Due.is("of oneself", x.claimRole(0, 0, 3), 1);
        Due.is("of another one", x.claimRole(0, 1, 3), 2);
        Due.is("the same again", x.claimRole(0, 1, 3), 3);
        x.act(0, 3, 0);
        x.night();
        Due.is("by day, of the dead, by the dead", x.claimRole(3, 3, 3), 4);
        for (int claims = 5; claims <= 40; claims++) {
            Due.is("claim " + claims, x.claimRole(claims % 4, 0, 0), claims);
        }
        Due.fails("claim 41", x, IllegalStateException.class, () -> x.claimRole(0, 0, 0));
        Due.fails("claim 41 of nobody", x, IllegalStateException.class, () -> x.claimRole(9, 9, 9));
        Due.fails("claim 41 of a side", x, IllegalStateException.class, () -> x.claimSide(9, 9, 'q'));
        NightfallCouncil y = four();
        y.act(0, 0, 0);
        y.night();
        Due.fails("claim as the game is over", y, IllegalStateException.class, () -> y.claimRole(0, 0, 0));
        Due.fails("claim a side as the game is over", y, IllegalStateException.class, () -> y.claimSide(0, 0, 'g'));
    }

    private static void promise20ClaimSide() {
        NightfallCouncil x = four();
        for (int seat : NO_SEATS) {
            Due.fails("nobody claims", x, NONE, () -> x.claimSide(seat, 0, 'g'));
            Due.fails("of nobody", x, NONE, () -> x.claimSide(0, seat, 'g'));
            Due.fails("no side of nobody", x, NONE, () -> x.claimSide(0, seat, 'q'));
        }
        for (char side : new char[] {'q', '-', 'G', 0, 'g' + 256, 65535}) {
            Due.fails("no side", x, IllegalArgumentException.class, () -> x.claimSide(0, 0, side));
        }
        Due.is("claims", Due.all(() -> x.claimSide(0, 0, 'g'), () -> x.claimRole(1, 0, 0),
                () -> x.claimSide(2, 1, 'e')).toString(), "[1, 2, 3]");
        for (int claims = 4; claims <= 40; claims++) {
            Due.is("claim " + claims, x.claimSide(claims % 4, 0, 'e'), claims);
        }
        Due.fails("claim 41", x, IllegalStateException.class, () -> x.claimSide(0, 0, 'e'));
    }

    private static void promise29OpenWorlds() {
        NightfallCouncil x = four();
        Due.is("all ways at first", x.openWorlds(), 24);
        x.act(0, 3, 0);
        x.night();
        Due.is("a card is shown", x.openWorlds(), 6);
        Table.execute(x, 0, 1, 0, 2);
        Due.is("another one, as the game ends", Due.all(x::state, x::openWorlds).toString(), "[e, 2]");
        NightfallCouncil y = Table.deal(Table.roles("ek5e", "g-0e", "gs5e"), true, true, 0, 1, 1, 1, 2, 1, 1, 1);
        Due.is("several of a role", y.openWorlds(), 56);
        y.act(0, 1, 0);
        y.night();
        Due.is("one of several is shown", y.openWorlds(), 42);
    }

    private static void shownWhileUnchanged() {
        NightfallCouncil x = Table.game("ek5e", "gw4o", "g-0e", "gs9e", "g-0e");
        x.act(1, 2, 3);
        x.act(0, 4, 0);
        x.night();
        Due.is("no card counts that is shown after a change", x.openWorlds(), 120);
        NightfallCouncil y = Table.roles("ek5e", "gc4e", "g-0e", "g-0e", "g-0e");
        y.turnInto(1, 4);
        Table.deal(y, true, false, 0, 1, 2, 3, 4);
        y.act(1, 2, 0);
        y.act(0, 3, 0);
        y.night();
        Due.is("who dies is shown ahead of who is turned", y.openWorlds(), 24);
        Due.is("seat 2 was turned", y.seat(2, 'c'), 4);
        Table.execute(y, 1, 2, 1, 4);
        Due.is("no card counts that is shown after a turning", Due.all(() -> y.seat(2, 'l'), y::openWorlds)
                .toString(), "[0, 24]");
    }

    private static void promise30Worlds() {
        NightfallCouncil x = four();
        Due.is("its own card", x.worlds(0), 6);
        x.act(1, 0, 0);
        x.act(2, 3, 0);
        x.night();
        Due.is("who was told nothing", x.worlds(0), 6);
        Due.is("who was told a side", x.worlds(1), 2);
        Due.is("who was told a role", x.worlds(2), 2);
        x.slip(0, 0);
        Due.is("as the moderator slips", x.worlds(1), 4);
        x.slip(0, 2);
        Due.is("no world has a number that is none", x.worlds(1), 0);
        x.slip(1, 9);
        Due.is("no world has a role that is none", x.worlds(2), 0);
        NightfallCouncil y = Table.roles("ek5e", "gs6e", "gl6e", "g-0e");
        y.register(3, 'e', 0);
        Table.deal(y, true, false, 0, 1, 2, 3);
        y.act(1, 3, 0);
        y.act(2, 3, 0);
        y.night();
        Due.is("as roles register, not as they are", Due.all(() -> y.telling(0, 'v'), () -> y.telling(1, 'v'),
                () -> y.worlds(1), () -> y.worlds(2), () -> y.chanceOf(1, 3, 0), () -> y.evilChance(1, 3))
                .toString(), "[1, 0, 4, 4, 2, 2]");
        Due.is("the shown cards, too", Due.all(() -> Table.execute(y, 1, 0, 1, 2), () -> y.worlds(1)).toString(),
                "[0, 1]");
    }

    private static void drunkWorlds() {
        NightfallCouncil x = Table.roles("ek5e", "gs6e", "g-0ed", "g-0e");
        for (int role = 0; role < 4; role++) {
            x.bag(role);
        }
        x.list(0, 0);
        x.list(1, 1);
        x.list(2, 1);
        x.list(3, 3);
        x.deal(true, false);
        Due.is("its own card, or a drunk one", Due.all(() -> x.worlds(0), () -> x.worlds(1), () -> x.worlds(2),
                () -> x.worlds(3), () -> x.chanceOf(1, 1, 2), () -> x.chanceOf(2, 2, 1)).toString(),
                "[12, 12, 12, 12, 6, 6]");
        x.act(1, 0, 0);
        x.act(2, 0, 0);
        x.night();
        Due.is("a drunk one is told the other side", Due.all(() -> x.telling(0, 'v'), () -> x.telling(1, 'v'))
                .toString(), "[1, 0]");
        Due.is("so with its own card, or drunk", Due.all(() -> x.worlds(1), () -> x.chanceOf(1, 1, 2),
                () -> x.worlds(2), () -> x.chanceOf(2, 2, 2), () -> x.chanceOf(2, 2, 1)).toString(),
                "[8, 6, 10, 6, 4]");
        Due.is("sound", x.isSound(), true);
    }

    private static void licensedWorlds() {
        for (String misleading : new String[] {"ed1e", "ex1e"}) {
            NightfallCouncil x = Table.roles("gs6e", misleading, "g-0e", "g-0e");
            Table.deal(x, true, false, 0, 1, 2, 2);
            x.act(0, 2, 0);
            x.night();
            Due.is("another seat's card " + misleading + " licenses", x.worlds(0), 3);
            Due.is("not its own one", x.worlds(1), 3);
        }
        NightfallCouncil y = Table.roles("gs6e", "gx1e", "e-0e", "g-0e", "ed2e", "g-0e");
        Table.deal(y, true, false, 0, 2, 3, 5);
        y.act(0, 1, 0);
        y.night();
        Due.is("roles that are not in the bag license nothing", y.worlds(0), 2);
        NightfallCouncil z = Table.roles("gs6e", "gx1e", "ec3e", "g-0e");
        z.turnInto(2, 0);
        Table.deal(z, true, false, 0, 1, 2, 3);
        z.act(0, 2, 0);
        z.act(1, 2, 3);
        z.night();
        Due.is("a crossing", Due.all(() -> z.telling(0, 'v'), () -> z.worlds(0), z::isSound).toString(),
                "[0, 6, true]");
    }

    private static void neighbourWorlds() {
        NightfallCouncil x = Table.roles("gn6e", "ek7e", "g-0e");
        Table.deal(x, false, false, 2, 2, 0, 1, 2, 2);
        x.act(3, 1, 0);
        x.night();
        Due.is("one evil neighbour", Due.all(() -> x.telling(0, 'v'), () -> x.worlds(2), () -> x.evilChance(2, 1),
                () -> x.evilChance(2, 3)).toString(), "[1, 2, 1, 1]");
        x.dusk();
        x.night();
        Due.is("the neighbours as they were then", Due.all(() -> x.telling(1, 'v'), () -> x.worlds(2),
                () -> x.evilChance(2, 3)).toString(), "[1, 1, 1]");
        NightfallCouncil y = Table.roles("gn6e", "ek7e", "g-0e", "gk5e");
        Table.deal(y, false, false, 0, 1, 2, 2, 2);
        y.act(1, 2, 0);
        y.night();
        y.slip(0, 0);
        Due.is("no evil neighbour", Due.all(() -> y.worlds(0), () -> y.evilChance(0, 2), () -> y.evilChance(0, 1))
                .toString(), "[2, 1, 0]");
        y.slip(0, 2);
        Due.is("two of one", y.worlds(0), 0);
    }

    /** Tellings count that are of a time when no card had been changed or turned. */
    private static void changedTellings() {
        NightfallCouncil x = Table.roles("gs4e", "gw5e", "e-0e", "g-0e", "gs6e");
        Table.deal(x, false, false, 0, 1, 2, 3, 4);
        x.act(0, 2, 0);
        x.act(1, 2, 3);
        x.act(4, 2, 0);
        x.night();
        Due.is("ahead of the change", Due.all(() -> x.telling(0, 'v'), () -> x.worlds(0)).toString(), "[1, 6]");
        Due.is("after the change", Due.all(() -> x.telling(1, 'v'), () -> x.worlds(4)).toString(), "[0, 24]");
        Due.is("at first, not as it is now", Due.all(() -> x.knows(0, 2), () -> x.worlds(2), () -> x.seat(2, 'b'))
                .toString(), "[e, 24, 3]");
        NightfallCouncil y = Table.roles("gs4e", "ec5e", "g-0e", "g-0e");
        y.turnInto(1, 3);
        Table.deal(y, false, false, 0, 1, 2, 3);
        y.act(0, 1, 0);
        y.act(1, 2, 0);
        y.night();
        Due.is("ahead of the turning", y.worlds(0), 2);
        y.dusk();
        y.act(0, 2, 0);
        y.night();
        Due.is("after the turning", Due.all(() -> y.telling(1, 'v'), () -> y.worlds(0)).toString(), "[0, 2]");
        y.slip(1, 1);
        Due.is("nothing of that counts", y.worlds(0), 2);
        NightfallCouncil z = Table.roles("gs6e", "gd1e", "ew2e", "g-0e");
        Table.deal(z, false, false, 0, 1, 2, 3);
        z.act(1, 2, 0);
        z.act(2, 0, 3);
        z.night();
        Due.is("a change that has no effect is none", Due.all(() -> z.seat(0, 'c'), z::isSound).toString(),
                "[0, true]");
    }

    private static void promise31ChanceOf() {
        NightfallCouncil x = four();
        x.act(1, 0, 0);
        x.act(2, 3, 0);
        x.night();
        Due.is("seat 2 knows that 3 has no act", Due.all(() -> x.chanceOf(2, 3, 3), () -> x.chanceOf(2, 0, 0),
                () -> x.chanceOf(2, 1, 0), () -> x.chanceOf(2, 0, 3), () -> x.chanceOf(2, 2, 2)).toString(),
                "[2, 1, 1, 0, 2]");
        Due.fails("no role", x, NONE, () -> x.chanceOf(0, 0, 4));
        Due.fails("role -1", x, NONE, () -> x.chanceOf(0, 0, -1));
        Due.fails("no role of no seat", x, NONE, () -> x.chanceOf(0, 4, 0));
        x.gather();
        Due.fails("without a game", x, IllegalStateException.class, () -> x.chanceOf(0, 0, 4));
    }

    private static void promise32EvilChance() {
        NightfallCouncil x = four();
        Due.is("at first", Due.all(() -> x.evilChance(1, 0), () -> x.evilChance(1, 1), () -> x.evilChance(0, 0),
                () -> x.evilChance(0, 1)).toString(), "[2, 0, 6, 0]");
        x.act(1, 3, 0);
        x.night();
        Due.is("as 3 is good", Due.all(() -> x.evilChance(1, 0), () -> x.evilChance(1, 2), () -> x.evilChance(1, 3))
                .toString(), "[2, 2, 0]");
    }

    private static void promise33Knows() {
        NightfallCouncil x = four();
        Due.is("at first", Due.all(() -> x.knows(1, 0), () -> x.knows(1, 1), () -> x.knows(0, 0),
                () -> x.knows(0, 3)).toString(), "[-, g, e, g]");
        x.act(1, 3, 0);
        x.night();
        Due.is("as 3 is good", Due.all(() -> x.knows(1, 3), () -> x.knows(1, 0)).toString(), "[g, -]");
        x.slip(0, 1);
        Due.is("as 3 is told to be evil", Due.all(() -> x.knows(1, 3), () -> x.knows(1, 0)).toString(), "[e, g]");
        x.slip(0, 2);
        Due.is("no worlds", Due.all(() -> x.knows(1, 3), () -> x.knows(1, 1)).toString(), "[-, -]");
    }

    private static void promise34BestVote() {
        NightfallCouncil x = four();
        Due.is("the lowest other one", Due.all(() -> x.bestVote(0), () -> x.bestVote(1), () -> x.bestVote(3))
                .toString(), "[1, 0, 0]");
        x.act(1, 0, 0);
        x.night();
        x.slip(0, 0);
        Due.is("as 0 is told to be good", x.bestVote(1), 2);
        x.slip(0, 2);
        Due.fails("no world", x, NOTHING, () -> x.bestVote(1));
        x.slip(0, 1);
        x.dusk();
        x.act(0, 0, 0);
        x.night();
        Due.is("a dead one is for no vote", Due.all(x::state, () -> x.bestVote(1), () -> x.bestVote(0)).toString(),
                "[g, 2, 1]");
        NightfallCouncil y = Table.game("ek5e", "gk6e", "gk6e");
        y.act(0, 0, 0);
        y.act(1, 1, 0);
        y.night();
        Due.fails("no living other one", y, NOTHING, () -> y.bestVote(2));
        Due.is("the last one", y.bestVote(0), 2);
    }

    private static void promise35LeastLiars() {
        NightfallCouncil x = four();
        Due.is("no claims", x.leastLiars(), 0);
        x.claimRole(0, 0, 1);
        x.claimRole(1, 1, 1);
        Due.is("two with one role", x.leastLiars(), 1);
        x.claimRole(2, 2, 2);
        x.claimSide(2, 0, 'e');
        Due.is("one that can be right", x.leastLiars(), 1);
        x.claimSide(3, 0, 'e');
        x.claimSide(3, 1, 'e');
        Due.is("two evil ones where there is one", x.leastLiars(), 2);
        x.claimSide(3, 2, 'e');
        Due.is("one liar of several claims", x.leastLiars(), 2);
        x.claimRole(2, 1, 2);
        Due.is("three liars", x.leastLiars(), 3);
        x.act(0, 3, 0);
        x.night();
        x.claimRole(1, 3, 0);
        Due.is("of open worlds", x.leastLiars(), 3);
        x.claimRole(0, 3, 2);
        Due.is("a shown card makes a liar", x.leastLiars(), 4);
    }

    private static void promise36Claimed() {
        NightfallCouncil x = four();
        Due.is("no claims", x.claimed(0), 24);
        x.claimRole(0, 0, 2);
        x.claimSide(0, 1, 'e');
        Due.is("both are so", Due.all(() -> x.claimed(0), () -> x.claimed(1)).toString(), "[2, 24]");
        x.claimSide(0, 1, 'g');
        Due.is("what is never so", x.claimed(0), 0);
        x.claimSide(1, 0, 'g');
        Due.is("good", x.claimed(1), 18);
        NightfallCouncil y = Table.roles("ek5e", "g-0e", "gs6e");
        y.register(0, 'g', 1);
        y.register(1, 'e', 0);
        Table.deal(y, true, false, 0, 1, 2);
        y.claimSide(2, 0, 'e');
        y.claimRole(1, 0, 1);
        Due.is("by the card's own side and role", Due.all(() -> y.claimed(2), () -> y.claimed(1)).toString(),
                "[2, 2]");
        y.act(0, 0, 0);
        y.night();
        Due.is("open worlds", Due.all(() -> y.claimed(2), () -> y.claimed(1), () -> y.claimed(0)).toString(),
                "[2, 0, 2]");
    }

    private static void promise37Bluff() {
        NightfallCouncil x = four();
        Due.is("the lowest good role", x.bluff(0), 1);
        x.claimRole(0, 0, 0);
        Due.is("claims of itself do not count", x.bluff(0), 1);
        x.claimRole(0, 2, 1);
        Due.is("another one has it", x.bluff(0), 2);
        x.claimRole(1, 3, 2);
        Due.is("claims of others do not count", x.bluff(0), 2);
        x.claimRole(0, 1, 2);
        Due.is("the last one is left", x.bluff(0), 3);
        x.claimSide(0, 3, 'g');
        Due.fails("only evil is left", x, NOTHING, () -> x.bluff(0));
        Due.is("another seat", x.bluff(3), 1);
        NightfallCouncil y = Table.game("g-0e", "ek5e", "g-0e", "g-0e");
        y.act(1, 2, 0);
        y.night();
        Due.is("as it is shown", y.bluff(2), 2);
        Due.is("of open worlds", y.bluff(1), 0);
        Due.is("evil is executed", Table.execute(y, 0, 1, 0, 3), 1);
        Due.fails("a shown evil one", y, NOTHING, () -> y.bluff(1));
    }

    private static void promise46MeanWorlds() {
        NightfallCouncil x = four();
        Due.is("at first", x.meanWorlds(), 6.0);
        x.act(1, 0, 0);
        x.act(2, 3, 0);
        x.night();
        Due.is("6, 2, 2, 6", x.meanWorlds(), 4.0);
        x.dusk();
        x.act(0, 3, 0);
        x.night();
        Due.is("2, 1, 2 of the living", x.meanWorlds(), 5.0 / 3.0);
        NightfallCouncil y = Table.game("ek5e", "gk5e", "gk5e");
        for (int seat = 0; seat < 3; seat++) {
            y.act(seat, seat, 0);
        }
        y.night();
        Due.is("none are living, so none is evil", y.state(), 'g');
        Due.fails("none are living", y, ArithmeticException.class, y::meanWorlds);
    }

    private static void wrongSeats() {
        NightfallCouncil x = four();
        for (int seat : NO_SEATS) {
            Due.fails("worlds", x, NONE, () -> x.worlds(seat));
            Due.fails("chanceOf", x, NONE, () -> x.chanceOf(seat, 0, 0));
            Due.fails("chanceOf other", x, NONE, () -> x.chanceOf(0, seat, 0));
            Due.fails("chanceOf role", x, NONE, () -> x.chanceOf(0, 0, seat));
            Due.fails("evilChance", x, NONE, () -> x.evilChance(seat, 0));
            Due.fails("evilChance other", x, NONE, () -> x.evilChance(0, seat));
            Due.fails("knows", x, NONE, () -> x.knows(seat, 0));
            Due.fails("knows other", x, NONE, () -> x.knows(0, seat));
            Due.fails("bestVote", x, NONE, () -> x.bestVote(seat));
            Due.fails("claimed", x, NONE, () -> x.claimed(seat));
            Due.fails("bluff", x, NONE, () -> x.bluff(seat));
        }
    }

    private static void tooManyWays() {
        NightfallCouncil x = Table.deal(Table.roles("ek5e", "gk6e", "g-0e", "g-0e", "g-0e", "g-0e"), true, false,
                0, 1, 2, 2, 3, 4, 5, 1);
        Due.is("ways", x.ways(), 10080L);
        Due.fails("openWorlds", x, MANY, x::openWorlds);
        Due.fails("worlds", x, MANY, () -> x.worlds(0));
        Due.fails("chanceOf", x, MANY, () -> x.chanceOf(0, 0, 0));
        Due.fails("evilChance", x, MANY, () -> x.evilChance(0, 0));
        Due.fails("knows", x, MANY, () -> x.knows(0, 0));
        Due.fails("bestVote", x, MANY, () -> x.bestVote(0));
        Due.fails("leastLiars", x, MANY, x::leastLiars);
        Due.fails("claimed", x, MANY, () -> x.claimed(0));
        Due.fails("bluff", x, MANY, () -> x.bluff(0));
        Due.fails("meanWorlds", x, MANY, x::meanWorlds);
        Due.fails("chanceOf no role", x, NONE, () -> x.chanceOf(0, 0, 6));
        wrongSeatsOfTooManyWays(x);
        Due.is("sound all the same", x.isSound(), true);
        NightfallCouncil y = Table.deal(Table.roles("ek5e", "gk6e", "g-0e", "g-0e"), true, false, 0, 1, 1, 1, 2, 2, 3, 3);
        Due.is("1680 ways are counted", Due.all(y::ways, y::openWorlds, () -> y.worlds(0), () -> y.worlds(1),
                y::isSound).toString(), "[1680, 1680, 210, 630, true]");
        NightfallCouncil z = Table.deal(Table.roles("ek5e", "gk6e", "g-0e", "g-0e"), true, false, 0, 0, 1, 1, 2, 2, 3, 3);
        Due.is("2520 are too many", z.ways(), 2520L);
        Due.fails("openWorlds of 2520", z, MANY, z::openWorlds);
        deadOfTooManyWays();
    }

    /** A wrong seat is listed ahead of too many ways. */
    private static void wrongSeatsOfTooManyWays(NightfallCouncil x) {
        for (int seat : new int[] {-1, 8}) {
            Due.fails("worlds of no seat", x, NONE, () -> x.worlds(seat));
            Due.fails("chanceOf of no seat", x, NONE, () -> x.chanceOf(seat, 0, 0));
            Due.fails("chanceOf of no other", x, NONE, () -> x.chanceOf(0, seat, 0));
            Due.fails("evilChance of no seat", x, NONE, () -> x.evilChance(seat, 0));
            Due.fails("evilChance of no other", x, NONE, () -> x.evilChance(0, seat));
            Due.fails("knows of no seat", x, NONE, () -> x.knows(seat, 0));
            Due.fails("knows of no other", x, NONE, () -> x.knows(0, seat));
            Due.fails("bestVote of no seat", x, NONE, () -> x.bestVote(seat));
            Due.fails("claimed of no seat", x, NONE, () -> x.claimed(seat));
            Due.fails("bluff of no seat", x, NONE, () -> x.bluff(seat));
        }
    }

    /** Too many ways are listed ahead of nobody who lives. */
    private static void deadOfTooManyWays() {
        NightfallCouncil x = Table.game("ek0e", "gk1e", "gk2e", "gk3e", "gk4e", "gk5e", "gk6e", "gk7e");
        for (int seat = 0; seat < 8; seat++) {
            x.act(seat, (seat + 1) % 8, 0);
        }
        Due.is("all die", x.night(), 8);
        Due.fails("meanWorlds of the dead", x, MANY, x::meanWorlds);
        Due.fails("bestVote of the dead", x, MANY, () -> x.bestVote(0));
    }
}
