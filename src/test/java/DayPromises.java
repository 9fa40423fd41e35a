/** Promises 14 to 18 at their bounds. */
final class DayPromises {
    private static final Class<?> INDEX = IndexOutOfBoundsException.class;
    private static final Class<?> UNSUPPORTED = UnsupportedOperationException.class;
    private static final Class<?> NOTHING = java.util.NoSuchElementException.class;
    private static final int[] NO_SEATS = {Integer.MIN_VALUE, -1, 8, 9, Integer.MAX_VALUE};

    private DayPromises() {
    }

    static void all() {
        nominate();
        closedFirst();
        vote();
        close();
        closedWithNobody();
        veto();
        dusk();
        deadAtDusk();
    }

    /** A day of eight: seat 0 is evil and kills, seats 6 and 7 have a veto. */
    private static NightfallCouncil day() {
        NightfallCouncil x = Table.deal(Table.roles("ek5e", "g-0e", "g-0ev"), true, true, 0, 1, 1, 1, 1, 1, 2, 2);
        x.night();
        return x;
    }

    private static void nominate() {
        Doc.promise(14, "Nominates a seat; one that is open is closed first.", "Returns how many were nominated today.");
        NightfallCouncil x = day();
        for (int seat : NO_SEATS) {
            Due.fails("by no seat", x, INDEX, () -> x.nominate(seat, 0));
            Due.fails("no seat", x, INDEX, () -> x.nominate(0, seat));
        }
        for (int seat = 0; seat < 8; seat++) {
            Due.is("how many today", x.nominate(seat, 7 - seat), seat + 1);
        }
        for (int seat = 0; seat < 8; seat++) {
            int by = seat;
            Due.fails("all have nominated", x, NOTHING, () -> x.nominate(by, by));
        }
        x.dusk();
        x.night();
        Due.is("the first one on the next day", x.nominate(7, 0), 1);
    }

    private static void closedFirst() {
        NightfallCouncil x = day();
        x.nominate(0, 5);
        for (int voter = 0; voter < 4; voter++) {
            x.vote(voter);
        }
        x.nominate(1, 4);
        Due.is("the one that was open counts", x.veto(6), true);
        NightfallCouncil y = day();
        y.nominate(0, 5);
        for (int voter = 0; voter < 3; voter++) {
            y.vote(voter);
        }
        y.nominate(1, 4);
        Due.is("with too few votes it does not", y.veto(6), false);
        NightfallCouncil z = day();
        z.nominate(0, 5);
        z.vote(0);
        z.vote(1);
        z.vote(2);
        Due.fails("a refused one closes nothing", z, NOTHING, () -> z.nominate(0, 4));
        Due.is("the votes go on", "" + z.vote(3) + z.close(), "45");
        NightfallCouncil six = day();
        for (int dies = 1; dies <= 2; dies++) {
            six.dusk();
            six.act(0, dies, 0);
            six.night();
        }
        six.nominate(0, 5);
        six.vote(3);
        six.vote(4);
        six.vote(5);
        six.nominate(3, 4);
        Due.is("three votes of six living seats are enough", six.close(), 5);
    }

    private static void vote() {
        Doc.promise(15, "Votes for the open nomination.", "Returns how many votes there are.");
        NightfallCouncil x = day();
        Due.fails("none is open", x, UNSUPPORTED, () -> x.vote(0));
        for (int nomination = 0; nomination < 3; nomination++) {
            x.nominate(nomination, nomination);
            for (int seat : NO_SEATS) {
                Due.fails("no seat", x, INDEX, () -> x.vote(seat));
            }
            for (int voter = 0; voter < 8; voter++) {
                int who = voter;
                Due.is("how many votes", x.vote(voter), voter + 1);
                Due.fails("it has voted", x, NOTHING, () -> x.vote(who));
            }
        }
        x.close();
        Due.fails("none is open any more", x, UNSUPPORTED, () -> x.vote(0));
    }

    private static void close() {
        Doc.promise(16, "Closes the open nomination.", "Returns who is to be executed then, or -1.");
        for (int seat : new int[] {0, 7}) {
            NightfallCouncil x = day();
            Due.fails("none is open", x, UNSUPPORTED, x::close);
            Due.is("three votes of eight", Table.closed(x, 1, 1, 3), -1);
            Due.is("four votes", Table.closed(x, 2, seat, 4), seat);
            Due.is("three votes, then", Table.closed(x, 3, 3, 3), seat);
            Due.is("none, then", Table.closed(x, 4, 4, 0), seat);
            Due.is("four for another one", Table.closed(x, 5, 5, 4), -1);
            Due.is("five", Table.closed(x, 6, 6, 5), 6);
            Due.is("eight", Table.closed(x, 7, 7 - seat, 8), 7 - seat);
            Due.fails("none is open then", x, UNSUPPORTED, x::close);
            Due.is("who has the most", x.dusk(), 7 - seat);
        }
    }

    private static void closedWithNobody() {
        NightfallCouncil x = day();
        x.nominate(0, 1);
        Due.is("no votes", x.close(), -1);
        Due.fails("closed once", x, UNSUPPORTED, x::close);
        Due.is("nobody", x.dusk(), -1);
        x.act(0, 5, 0);
        x.night();
        Due.is("one that is dead is to be executed", Table.closed(x, 0, 5, 4), 5);
        Due.is("another one with more votes", Table.closed(x, 1, 4, 5), 4);
    }

    private static void veto() {
        Doc.promise(17, "Vetoes.", "Returns whether somebody was to be executed.");
        NightfallCouncil x = day();
        for (int seat : NO_SEATS) {
            Due.fails("no seat", x, INDEX, () -> x.veto(seat));
        }
        Due.is("nobody was nominated", x.veto(7), false);
        x.dusk();
        x.night();
        Table.closed(x, 0, 1, 4);
        Due.is("one was to be executed", x.veto(6), true);
        Due.is("nobody is", x.dusk(), -1);
        for (int seat = 0; seat < 8; seat++) {
            NightfallCouncil each = day();
            Table.closed(each, 0, seat, 4);
            Due.is("one of all seats, the first and the last too", "" + each.veto(7) + each.dusk(), "true-1");
        }
        NightfallCouncil y = day();
        Table.closed(y, 0, 1, 3);
        Due.is("with too few votes", y.veto(6), false);
        NightfallCouncil z = day();
        Table.closed(z, 0, 1, 4);
        Table.closed(z, 1, 2, 4);
        Due.is("of several with as many, none", z.veto(6), false);
        NightfallCouncil dead = Table.deal(Table.roles("ek5e", "g-0e", "g-0ev"), true, true, 0, 1, 1, 1, 2);
        dead.act(0, 1, 0);
        dead.night();
        Table.closed(dead, 0, 1, 3);
        Due.is("a dead one was to be executed", dead.veto(4), true);
    }

    private static void dusk() {
        Doc.promise(18, "Ends the day.", "Returns who is executed, or -1, also if who was to be is dead.");
        for (int seat = 0; seat < 8; seat++) {
            NightfallCouncil x = day();
            Due.is("who is executed", "" + Table.execute(x, 1, seat, 0, 1, 2, 3) + x.seat(seat, 'l') + x.living(), seat + "07");
            Due.is("the day has ended", x.state(), seat == 0 ? 'g' : 'n');
        }
        NightfallCouncil y = day();
        Due.is("nobody was nominated", "" + y.dusk() + y.living() + y.state(), "-18n");
        Due.fails("it is night", y, UNSUPPORTED, y::dusk);
    }

    private static void deadAtDusk() {
        NightfallCouncil x = Table.deal(Table.roles("ek5e", "gh0e", "g-0e"), true, true, 0, 1, 2, 2, 2, 2, 2, 2);
        x.act(1, 7, 6);
        x.act(0, 7, 0);
        Due.is("two are dead", x.night(), 2);
        Due.is("who was to be executed is dead", "" + Table.execute(x, 0, 7, 0, 1, 2) + x.living() + x.state(), "-16n");
        x.night();
        Due.is("nor is who died with it", "" + Table.execute(x, 0, 6, 6, 7, 2) + x.living(), "-16");
        x.night();
        Due.is("ghost votes are gone", Sight.row(x, 'g'), "[1, 1, 1, 1, 1, 1, 0, 0]");
    }
}
