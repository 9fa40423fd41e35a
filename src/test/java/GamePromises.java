/** Promises 8, 9, 11 and 21 to 24 at their bounds. */
final class GamePromises {
    private static final Class<?> STATE = IllegalStateException.class;
    private static final Class<?> INDEX = IndexOutOfBoundsException.class;
    private static final Class<?> WRONG = IllegalArgumentException.class;
    private static final Class<?> UNSUPPORTED = UnsupportedOperationException.class;

    private GamePromises() {
    }

    static void all() {
        deal();
        gather();
        gatherAtAnyTime();
        nextGame();
        sit();
        state();
        nights();
        seat();
        living();
    }

    private static void deal() {
        Doc.promise(8, "Deals the listed roles, all of the bag.", "Returns how many seats there are.");
        for (int size = 3; size <= 8; size++) {
            NightfallCouncil x = Table.roles("g-0e", "e-0e");
            for (int i = 0; i < size; i++) {
                x.bag(i % 2);
            }
            for (int i = 0; i < size; i++) {
                Due.fails("one is not listed, of " + size, x, UNSUPPORTED, () -> x.deal(true, true));
                x.list(i % 2, 0);
            }
            Due.is("how many seats there are", x.deal(true, false), size);
            Due.fails("a game was dealt", x, STATE, () -> x.deal(true, false));
        }
        NightfallCouncil y = Table.roles("g-0e", "e-0e");
        for (int i = 0; i < 2; i++) {
            Due.fails("less than three, all listed", y, UNSUPPORTED, () -> y.deal(false, false));
            y.bag(0);
            y.list(0, 0);
        }
        Due.fails("two", y, UNSUPPORTED, () -> y.deal(false, false));
        y.bag(1);
        Due.fails("three, two of them listed", y, UNSUPPORTED, () -> y.deal(false, false));
        y.list(1, 1);
        Due.is("three", y.deal(false, false), 3);
    }

    private static void gather() {
        Doc.promise(9, "Ends a game, if there is one; roles, bag and ratings stay, the list is empty.",
                "Returns whether there was one.");
        NightfallCouncil x = Table.roles("ek5e", "g-0e");
        Due.is("none yet", x.gather(), false);
        x.bag(0);
        x.bag(1);
        x.bag(1);
        x.list(1, 1);
        Due.is("none", x.gather(), false);
        Due.is("the list is empty", x.list(1, 1), 1);
        x.list(1, 1);
        x.list(0, 0);
        x.deal(true, true);
        x.act(2, 0, 0);
        x.night();
        Due.is("one", x.gather(), true);
        Due.is("then none", x.gather(), false);
        Due.is("roles and bag stay", "" + x.roles() + x.ways(), "23");
        Due.is("ratings stay", "" + x.rating(2, 'e') + x.rating(0, 'g'), "1016984");
        Due.fails("the list is empty", x, UNSUPPORTED, () -> x.deal(true, true));
        Due.is("it begins anew", "" + x.list(1, 1) + x.list(1, 1) + x.list(0, 0), "123");
    }

    private static void gatherAtAnyTime() {
        for (int calls = 0; calls < 7; calls++) {
            NightfallCouncil x = Table.game("ek5e", "g-0e", "g-0e", "gs5e");
            int left = calls;
            for (Runnable call : new Runnable[] {() -> x.act(0, 1, 0), x::night, () -> x.nominate(0, 2),
                () -> x.vote(0), () -> x.vote(3), x::dusk}) {
                if (left-- > 0) {
                    call.run();
                }
            }
            Due.is("whether there was one, after calls " + calls, x.gather(), true);
            Due.is("there is none", x.state(), '-');
            Due.fails("nothing of it can be asked", x, STATE, x::checksum);
            Table.list(x, true, true, Table.upTo(4), Table.upTo(4));
            Due.is("the next one is as at first", Sight.row(x, 'l') + x.tellings() + x.nights() + x.act(0, 1, 0),
                    "[1, 1, 1, 1]01true");
        }
    }

    /** The next game is as if there had been none, whatever was so as the one before was gathered. */
    private static void nextGame() {
        String[] one = {"ek5e", "gs6o", "g-0ed", "gd2o", "gx1e", "gn7ev"};
        String[] other = {"ew3e", "gl2e", "g-0ej", "gh1e", "gk4o", "ec5ev"};
        for (int calls = 0; calls <= 9; calls++) {
            for (boolean areTold : new boolean[] {false, true}) {
                Due.is("after a game of " + calls + " calls", futureOfNext(one, calls, areTold), futureOf(one, areTold));
                Due.is("after another one", futureOfNext(other, calls, areTold), futureOf(other, areTold));
            }
        }
    }

    /** What a game answers that is dealt after one of as many calls, with other cards for the seats. */
    private static String futureOfNext(String[] roles, int calls, boolean areTold) {
        NightfallCouncil x = Table.dealDrunk(Table.roles(roles), true, true, new int[] {5, 4, 3, 2, 1, 0},
                new int[] {5, 4, 3, 0, 1, 0});
        play(x, calls);
        x.gather();
        return Future.of(Table.list(x, true, true, Table.upTo(6), new int[] {0, 1, 1, 3, 4, 5}), areTold);
    }

    private static String futureOf(String[] roles, boolean areTold) {
        return Future.of(Table.dealDrunk(Table.roles(roles), true, true, Table.upTo(6), new int[] {0, 1, 1, 3, 4, 5}), areTold);
    }

    /** The first calls of a game of six seats. */
    private static void play(NightfallCouncil x, int calls) {
        Runnable[] all = {() -> actAll(x), x::night, () -> x.claimRole(1, 2, 0), () -> x.nominate(1, 1), () -> x.vote(0),
            () -> voteAll(x), x::close, () -> Calls.answerByNumbers(x, "veto", 0), x::dusk};
        for (int call = 0; call < calls && call < all.length; call++) {
            all[call].run();
        }
    }

    private static void actAll(NightfallCouncil x) {
        for (int seat = 0; seat < 6; seat++) {
            Calls.answerByNumbers(x, "act", seat, (seat + 5) % 6, (seat + 2) % 6);
        }
    }

    private static void voteAll(NightfallCouncil x) {
        for (int seat = 0; seat < 6; seat++) {
            Calls.answerByNumbers(x, "vote", seat);
        }
    }

    private static void sit() {
        Doc.promise(11, "Lets a player take a seat.", "`player`: the player, 0 to 7", "Returns the player before.");
        NightfallCouncil x = Table.game("ek5e", "g-0e", "g-0e");
        for (int player = 3; player <= 7; player++) {
            Due.is("the player before", x.sit(0, player), player == 3 ? 0 : player - 1);
        }
        Due.is("the last player on the first seat, the first one on the last seat", "" + x.sit(2, 0) + x.seat(0, 'w')
                + x.seat(2, 'w'), "270");
        for (int player : new int[] {Integer.MIN_VALUE, -1, 8, Integer.MAX_VALUE}) {
            Due.fails("no player", x, WRONG, () -> x.sit(1, player));
        }
        for (int seat : new int[] {Integer.MIN_VALUE, -1, 3, 7, Integer.MAX_VALUE}) {
            Due.fails("no seat", x, INDEX, () -> x.sit(seat, 5));
        }
        Due.fails("one that sits on another seat", x, WRONG, () -> x.sit(1, 7));
        Due.is("the same one again", x.sit(1, 1), 1);
        Due.is("who sits", Sight.row(x, 'w'), "[7, 1, 0]");
        NightfallCouncil y = Table.deal(Table.roles("g-0e"), true, true, new int[8]);
        for (int seat = 0; seat < 8; seat++) {
            for (int player = 0; player < 8; player++) {
                int to = seat;
                int who = player;
                if (to == who) {
                    Due.is("all sit, each can only stay", y.sit(to, who), who);
                } else {
                    Due.fails("it sits on another one of eight seats", y, WRONG, () -> y.sit(to, who));
                }
            }
        }
    }

    private static void state() {
        Doc.promise(21, "Returns how far the game is.",
                "Returns '-' there is none, 'n' night, 'd' day, or who has won, 'j', 'm', 'g' or 'e'.");
        NightfallCouncil x = Table.roles("ek5e", "g-0ej", "g-0em", "g-0e");
        Due.is("none yet", x.state(), '-');
        for (char winner : "jmge".toCharArray()) {
            Due.is("none", x.state(), '-');
            if (winner == 'j') {
                Table.deal(x, true, true, 0, 1, 2, 3);
            } else {
                Table.list(x, true, true, Table.upTo(4), Table.upTo(4));
            }
            Due.is("night", x.state(), 'n');
            x.act(0, winner == 'g' ? 0 : 3, 0);
            x.night();
            Due.is("day, or won at dawn", x.state(), winner == 'g' ? 'g' : 'd');
            if (winner == 'j') {
                Table.execute(x, 0, 1, 0, 2);
            } else if (winner == 'm') {
                x.dusk();
            } else if (winner == 'e') {
                Table.execute(x, 0, 2, 0, 1);
            }
            Due.is("who has won", x.state(), winner);
            x.gather();
        }
    }

    private static void nights() {
        Doc.promise(22, "Returns the number of the night, or of that ahead of the day.", "Returns the number.");
        NightfallCouncil x = Table.game("e-0e", "g-0e", "g-0e");
        for (int night = 1; night <= 100; night++) {
            Due.is("the night", x.nights(), night);
            x.night();
            Due.is("the night ahead of the day", x.nights(), night);
            x.dusk();
        }
        x.gather();
        Due.fails("no game", x, STATE, x::nights);
        Table.list(x, true, true, Table.upTo(3), Table.upTo(3));
        Due.is("the first one again", x.nights(), 1);
    }

    private static void seat() {
        Doc.promise(23, "Returns something of a seat.", "`what`: 'c' its card, 'b' the role in which it believes, 'l' 1 if "
                + "alive, 'p' 1 if poisoned, 'g' 1 if it has a ghost vote, 'h' to whom it is bonded, or -1, 'w' the player",
                "Returns the number.");
        NightfallCouncil x = Table.roles("gh0e", "gd1e", "ek2e", "g-0e", "g-0e", "g-0e", "g-0e", "g-0e", "g-0e", "g-0ed");
        Table.dealDrunk(x, true, true, new int[] {0, 1, 2, 9, 3, 9, 8, 4}, new int[] {0, 1, 2, 0, 3, 8, 8, 4});
        x.act(0, 0, 7);
        x.act(1, 7, 0);
        x.act(2, 4, 0);
        x.night();
        x.nominate(0, 1);
        x.vote(4);
        Due.is("cards", Sight.row(x, 'c'), "[0, 1, 2, 9, 3, 9, 8, 4]");
        Due.is("beliefs", Sight.row(x, 'b'), "[0, 1, 2, 0, 3, 8, 8, 4]");
        Due.is("alive", Sight.row(x, 'l'), "[1, 1, 1, 1, 0, 1, 1, 1]");
        Due.is("poisoned", Sight.row(x, 'p'), "[0, 0, 0, 0, 0, 0, 0, 1]");
        Due.is("ghost votes", Sight.row(x, 'g'), "[1, 1, 1, 1, 0, 1, 1, 1]");
        Due.is("bonds", Sight.row(x, 'h'), "[7, -1, -1, -1, -1, -1, -1, 0]");
        Due.is("players", Sight.row(x, 'w'), "[0, 1, 2, 3, 4, 5, 6, 7]");
        Due.is("things of a seat", Sight.taken(() -> Table.game("g-0e", "g-0e", "g-0e"), "seat"), "bcghlpw");
        Due.fails("no seat 8", x, INDEX, () -> x.seat(8, 'c'));
        Due.fails("no seat -1", x, INDEX, () -> x.seat(-1, 'c'));
    }

    private static void living() {
        Doc.promise(24, "Returns how many seats are alive.", "Returns how many.");
        for (int dead = 0; dead <= 8; dead++) {
            NightfallCouncil x = Table.deal(Table.roles("ek5e"), true, true, new int[8]);
            for (int seat = 0; seat < dead; seat++) {
                x.act(seat, 7 - seat, 0);
            }
            Due.is("all before", x.living(), 8);
            Due.is("who die", x.night(), dead);
            Due.is("how many are alive", x.living(), 8 - dead);
        }
    }
}
