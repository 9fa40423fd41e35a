/** What 'Terms' says of days: nominations, votes, vetoes, executions and shown cards. */
final class DayTerms {
    private static final Class<?> REFUSED = UnsupportedOperationException.class;
    private static final Class<?> CANNOT = java.util.NoSuchElementException.class;

    private DayTerms() {
    }

    static void all() {
        whoNominates();
        onceADay();
        whoVotes();
        ghostVotes();
        halfOfTheLiving();
        halfWithGhostVotes();
        mostVotesOfToday();
        openAsTheDayEnds();
        droppedByAVeto();
        whoCanVeto();
        onceInAGame();
        afterAVeto();
        whoIsExecuted();
        theNextNight();
        shownCards();
    }

    /** Seat 0 is evil and kills, 1 poisons, 2 has a veto, 3 bonds; all but seat 0 are good. */
    private static NightfallCouncil day(int seats) {
        NightfallCouncil x = Table.roles("ek5e", "gd1e", "g-0ev", "gh0e", "g-0e");
        int[] cards = {0, 1, 2, 3, 4, 4, 4, 4};
        Table.deal(x, true, true, java.util.Arrays.copyOf(cards, seats));
        return x;
    }

    private static void whoNominates() {
        Doc.says("A living seat can nominate one, alive or dead, once a day; each can be nominated once a day.");
        NightfallCouncil x = day(6);
        x.act(0, 5, 0);
        x.night();
        Due.fails("a dead one", x, CANNOT, () -> x.nominate(5, 0));
        Due.is("a living one, a dead one", x.nominate(0, 5), 1);
        Due.is("one, itself", x.nominate(1, 1), 2);
        Due.is("one that has nominated is nominated", x.nominate(2, 0), 3);
    }

    private static void onceADay() {
        NightfallCouncil x = day(8);
        x.night();
        for (int by = 0; by < 8; by++) {
            int one = by;
            Due.is("each nominates, and is nominated", x.nominate(one, 7 - one), one + 1);
            if (by < 7) {
                Due.fails("who has done so today", x, CANNOT, () -> x.nominate(one, 6 - one));
                Due.fails("who was nominated today", x, CANNOT, () -> x.nominate(one + 1, 7 - one));
            }
        }
        x.dusk();
        x.night();
        Due.is("on the next day again", Due.all(() -> x.nominate(0, 7), () -> x.nominate(7, 0)).toString(), "[1, 2]");
    }

    private static void whoVotes() {
        Doc.says("Then votes are told for this one: living seats, and dead ones that have a ghost vote, which is gone then; "
                + "each once.");
        NightfallCouncil x = day(6);
        x.act(0, 5, 0);
        x.night();
        Due.fails("none is open", x, REFUSED, () -> x.vote(0));
        x.nominate(0, 1);
        for (int seat = 0; seat < 6; seat++) {
            int voter = seat;
            Due.is("the living, and the dead one", x.vote(seat), seat + 1);
            Due.fails("each once", x, CANNOT, () -> x.vote(voter));
        }
        x.nominate(1, 2);
        for (int seat = 0; seat < 5; seat++) {
            Due.is("the living for the next one, too", x.vote(seat), seat + 1);
        }
        Due.fails("not the dead one", x, CANNOT, () -> x.vote(5));
    }

    private static void ghostVotes() {
        NightfallCouncil x = day(7);
        x.act(0, 6, 0);
        x.act(3, 5, 6);
        Due.is("two are dead", x.night(), 2);
        x.nominate(0, 1);
        x.vote(0);
        Due.is("the living keep theirs", Sight.row(x, 'g'), "[1, 1, 1, 1, 1, 1, 1]");
        x.vote(6);
        Due.is("that of the dead is gone", Sight.row(x, 'g'), "[1, 1, 1, 1, 1, 1, 0]");
        x.dusk();
        Due.is("gone in the night", Sight.row(x, 'g'), "[1, 1, 1, 1, 1, 1, 0]");
        x.night();
        x.nominate(0, 1);
        Due.fails("gone on the next day", x, CANNOT, () -> x.vote(6));
        Due.is("the other dead one has it", x.vote(5), 1);
        Table.closed(x, 1, 4, 0);
        Due.is("gone, though too few voted", Sight.row(x, 'g'), "[1, 1, 1, 1, 1, 0, 0]");
    }

    private static void halfOfTheLiving() {
        Doc.says("To close counts: if there are at least half as many votes as living seats, rounded up, the one with the "
                + "most votes of today is to be executed; of several with as many, none.");
        int[] half = {0, 0, 0, 2, 2, 3, 3, 4, 4};
        for (int seats = 3; seats <= 8; seats++) {
            for (int votes = 0; votes <= seats; votes++) {
                NightfallCouncil x = day(seats);
                x.night();
                int due = votes >= half[seats] ? 1 : -1;
                Due.is(votes + " votes of " + seats, Table.closed(x, 0, 1, votes), due);
                Due.is("who is executed with " + votes + " votes of " + seats, x.dusk(), due);
            }
        }
    }

    private static void halfWithGhostVotes() {
        for (int dead = 0; dead <= 2; dead++) {
            for (int votes = 0; votes <= 8; votes++) {
                NightfallCouncil x = day(8);
                x.act(3, 0, 1);
                if (dead > 0) {
                    x.act(0, 7, 0);
                }
                if (dead > 1) {
                    x.act(3, 7, 6);
                }
                x.night();
                x.nominate(2, 5);
                for (int voter = 7; voter > 7 - votes; voter--) {
                    x.vote(voter);
                }
                Due.is(votes + " votes with " + dead + " dead ones first", x.close(), votes >= (dead == 2 ? 3 : 4) ? 5 : -1);
            }
        }
    }

    private static void mostVotesOfToday() {
        for (int all = 0; all < 125; all++) {
            int[] votes = {all % 5, all / 5 % 5, all / 25};
            NightfallCouncil x = day(6);
            x.night();
            int to = -1;
            int most = 2;
            for (int i = 0; i < 3; i++) {
                if (votes[i] >= most) {
                    to = votes[i] > most ? 3 + i : -1;
                    most = votes[i];
                }
                Due.is("the most of " + java.util.Arrays.toString(votes) + " up to " + i,
                        Table.closed(x, i, 3 + i, votes[i]), to);
            }
            Due.is("who is executed", x.dusk(), to);
        }
        NightfallCouncil y = day(6);
        y.night();
        Table.closed(y, 0, 4, 6);
        y.veto(2);
        y.dusk();
        y.night();
        Due.is("votes of another day do not count", Table.closed(y, 1, 5, 3), 5);
    }

    private static void openAsTheDayEnds() {
        Doc.says("A nomination that is open as the day ends is closed; by a veto it is dropped.");
        for (int votes = 0; votes <= 6; votes++) {
            NightfallCouncil x = day(6);
            x.night();
            x.nominate(0, 5);
            for (int voter = 0; voter < votes; voter++) {
                x.vote(voter);
            }
            Due.is("open with the votes " + votes, x.dusk(), votes >= 3 ? 5 : -1);
        }
        NightfallCouncil y = day(6);
        y.night();
        Table.closed(y, 0, 5, 3);
        y.nominate(1, 4);
        y.vote(0);
        y.vote(1);
        y.vote(2);
        Due.is("as many as one that was closed", y.dusk(), -1);
        NightfallCouncil z = day(6);
        z.night();
        Due.is("none is open", z.dusk(), -1);
    }

    private static void droppedByAVeto() {
        NightfallCouncil x = day(6);
        x.night();
        x.nominate(0, 5);
        for (int voter = 0; voter < 6; voter++) {
            x.vote(voter);
        }
        Due.is("an open one did not count", x.veto(2), false);
        Due.fails("it is not open", x, REFUSED, x::close);
        Due.fails("nobody votes for it", x, REFUSED, () -> x.vote(0));
        Due.is("nobody is executed", x.dusk(), -1);
        NightfallCouncil y = day(6);
        y.night();
        Table.closed(y, 0, 5, 3);
        y.nominate(1, 4);
        Due.is("one that was closed counted", y.veto(2), true);
        Due.is("nobody is executed then, too", y.dusk(), -1);
    }

    private static void whoCanVeto() {
        Doc.says("A living seat that is sober, with a card with the trait 'v', can veto, once in a game: nobody is executed "
                + "today, and nobody can be nominated any more.");
        NightfallCouncil x = day(6);
        x.night();
        for (int seat = 0; seat < 6; seat++) {
            int one = seat;
            if (one != 2) {
                Due.fails("without the trait", x, CANNOT, () -> x.veto(one));
            }
        }
        Due.is("with the trait", x.veto(2), false);
        NightfallCouncil y = day(6);
        y.act(1, 2, 0);
        y.night();
        Due.fails("poisoned", y, CANNOT, () -> y.veto(2));
        y.dusk();
        y.night();
        Due.is("sober on the next day", y.veto(2), false);
        NightfallCouncil z = day(6);
        z.act(0, 2, 0);
        z.night();
        Due.fails("dead", z, CANNOT, () -> z.veto(2));
        for (char trait : "-jmd".toCharArray()) {
            NightfallCouncil other = Table.roles("e-0e", "g-0e", "g-0e");
            other.trait(1, trait);
            Table.dealDrunk(other, true, true, new int[] {0, 1, 2}, new int[] {0, 2, 2});
            other.night();
            Due.fails("with the trait " + trait, other, CANNOT, () -> other.veto(1));
        }
    }

    private static void onceInAGame() {
        NightfallCouncil x = Table.deal(Table.roles("e-0ev", "g-0ev", "g-0e"), true, true, 0, 1, 1, 2, 2);
        x.night();
        Due.is("the first day", x.veto(1), false);
        Due.fails("again today", x, REFUSED, () -> x.veto(1));
        Due.fails("another one today", x, REFUSED, () -> x.veto(2));
        x.dusk();
        x.night();
        Due.fails("again on another day", x, CANNOT, () -> x.veto(1));
        Due.is("another one", x.veto(2), false);
        x.dusk();
        x.night();
        Due.is("an evil one", x.veto(0), false);
        x.gather();
        Table.list(x, true, true, new int[] {0, 1, 1, 2, 2}, new int[5]);
        x.night();
        Due.is("in the next game again", x.veto(1), false);
        NightfallCouncil each = Table.deal(Table.roles("e-0ev", "g-0ev"), true, true, 0, 1, 1, 1, 1, 1, 1, 1);
        for (int seat = 0; seat < 8; seat++) {
            each.night();
            for (int before = 0; before < seat; before++) {
                int spent = before;
                Due.fails("one that has", each, CANNOT, () -> each.veto(spent));
            }
            Due.is("each of eight", each.veto(seat), false);
            each.dusk();
        }
        each.night();
        Due.fails("the last seat, too", each, CANNOT, () -> each.veto(7));
    }

    private static void afterAVeto() {
        NightfallCouncil x = day(6);
        x.night();
        Table.closed(x, 0, 5, 6);
        x.veto(2);
        for (int by = 0; by < 6; by++) {
            int one = by;
            Due.fails("nobody nominates", x, REFUSED, () -> x.nominate(one, (one + 1) % 6));
        }
        Due.is("nobody is executed today", x.dusk(), -1);
        x.night();
        Due.is("on the next day nominations go on", x.nominate(0, 5), 1);
        Due.is("and executions", "" + x.vote(0) + x.vote(1) + x.vote(2) + x.dusk(), "1235");
    }

    private static void whoIsExecuted() {
        Doc.says("As the day ends, who is to be executed, if alive, dies, and who is bonded to one who dies.");
        NightfallCouncil x = day(6);
        x.act(3, 4, 5);
        x.night();
        Due.is("dies", "" + Table.execute(x, 0, 4, 0, 1, 2) + Sight.row(x, 'l'), "4[1, 1, 1, 1, 0, 0]");
        NightfallCouncil y = day(6);
        y.act(0, 4, 0);
        y.night();
        Due.is("who is dead is not executed", "" + Table.execute(y, 0, 4, 0, 1, 2) + y.living(), "-15");
        NightfallCouncil z = day(6);
        z.night();
        Due.is("up to dusk it lives", "" + Table.closed(z, 0, 4, 3) + z.seat(4, 'l'), "41");
        Due.is("one alone dies", "" + z.dusk() + z.living(), "45");
    }

    private static void theNextNight() {
        Doc.says("Then wins are looked at; if nobody has won, the next night begins.");
        NightfallCouncil x = day(6);
        x.night();
        Due.is("by day", "" + x.state() + x.nights(), "d1");
        x.dusk();
        Due.is("nobody has won", "" + x.state() + x.nights(), "n2");
        x.night();
        Due.is("the next day", "" + x.state() + x.nights(), "d2");
        Due.is("the good have won, so no night begins", "" + Table.execute(x, 0, 0, 1, 2, 3) + x.state() + x.nights(),
                "0g2");
    }

    private static void shownCards() {
        Doc.says("Cards of the dead are shown if that was told as the game began, at once, as they are.");
        for (boolean areShown : new boolean[] {true, false}) {
            NightfallCouncil x = Table.deal(Table.roles("ek5e", "g-0e", "g-0e", "gh0o"), areShown, true, 0, 1, 1, 2, 2, 3);
            Due.is("nobody is dead", x.openWorlds(), 180);
            x.act(5, 3, 4);
            x.act(0, 1, 0);
            x.night();
            Due.is("at once at dawn", x.openWorlds(), areShown ? 60 : 180);
            Table.execute(x, 0, 4, 0, 2, 3);
            Due.is("at once at dusk, who was bonded, too", "" + x.living() + "/" + x.openWorlds(),
                    areShown ? "3/6" : "3/180");
        }
        NightfallCouncil y = Table.believed(new int[] {0, 2, 2, 3}, "ek5e", "g-0ed", "g-0e", "g-0e");
        y.act(0, 1, 0);
        y.night();
        Due.is("the card, not what was believed", Due.all(() -> y.chanceOf(0, 1, 1), () -> y.chanceOf(0, 1, 2),
                () -> y.worlds(0)).toString(), "[2, 0, 2]");
    }
}
