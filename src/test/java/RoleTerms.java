/** What 'Terms' says of roles, the bag and the seats. */
final class RoleTerms {
    private static final Class<?> WRONG = IllegalArgumentException.class;
    private static final Class<?> REFUSED = UnsupportedOperationException.class;
    private static final Class<?> NONE = IndexOutOfBoundsException.class;
    private static final Class<?> STATE = IllegalStateException.class;
    private static final String ACTS = "-bxdpkchwsln";

    private RoleTerms() {
    }

    static void all() {
        atMostTenRoles();
        sidesActsAndWays();
        theRoleItselfAtFirst();
        traits();
        threeToEightSeats();
        soManyOfEachRole();
        dealtAsTold();
        believedAsDealt();
        whatAllAreAtFirst();
        playersAtFirst();
    }

    private static void atMostTenRoles() {
        Doc.says("At most 10 roles are numbered from 0.");
        NightfallCouncil x = new NightfallCouncil();
        Due.fails("no role is numbered 0 yet", x, NONE, () -> x.bag(0));
        for (int role = 0; role < 10; role++) {
            int last = role;
            Due.is("role " + role, x.role('g', '-', 0, 'e'), role);
            Due.fails("none is numbered behind it", x, NONE, () -> x.bag(last + 1));
        }
        Due.fails("an 11th role", x, STATE, () -> x.role('g', '-', 0, 'e'));
        Due.fails("is not numbered 10", x, NONE, () -> x.trait(10, '-'));
        Due.is("the last one is numbered 9", x.bag(9), 1);
        Due.is("ten roles", x.roles(), 10);
    }

    private static void sidesActsAndWays() {
        Doc.says("A role has a side, 'g' good or 'e' evil; an act, one of \"-bxdpkchwsln\"; an order, 0 to 9; a way: "
                + "'e' each night or 'o' once; a side as which it registers, and a role as which it registers, at first "
                + "its own ones; a trait, '-' none, 'j' jester, 'm' mayor, 'v' one with a veto, 'd' drunk; and a role to "
                + "which it turns others, itself at first.");
        for (int sign = 0; sign < 65536; sign++) {
            char it = (char) sign;
            accepts("side " + sign, "ge".indexOf(it) >= 0, it, '-', 0, 'e');
            accepts("act " + sign, ACTS.indexOf(it) >= 0, 'g', it, 0, 'e');
            accepts("way " + sign, "eo".indexOf(it) >= 0, 'g', '-', 0, it);
        }
        for (int order = -3; order <= 12; order++) {
            accepts("order " + order, order >= 0 && order <= 9, 'g', '-', order, 'e');
        }
        accepts("the least order", false, 'g', '-', Integer.MIN_VALUE, 'e');
        accepts("the greatest order", false, 'g', '-', Integer.MAX_VALUE, 'e');
    }

    private static void accepts(String what, boolean isDue, char side, char act, int order, char way) {
        NightfallCouncil x = new NightfallCouncil();
        String got = "accepted";
        try {
            x.role(side, act, order, way);
        } catch (IllegalArgumentException e) {
            got = "refused";
        }
        if (!got.equals(isDue ? "accepted" : "refused") || x.roles() != (isDue ? 1 : 0)) {
            Due.is("a role with the " + what, got, isDue ? "accepted" : "refused");
        }
    }

    private static void theRoleItselfAtFirst() {
        NightfallCouncil x = Table.roles("gs1e", "gl2e", "ec3e", "g-0e", "g-0e", "g-0e");
        for (int role = 0; role < 6; role++) {
            Due.is("the role as which it registers at first", x.register(role, role == 2 ? 'e' : 'g', role), role);
            Due.is("the role to which it turns others at first", x.turnInto(role, role), role);
        }
        NightfallCouncil y = Table.game("gs1e", "gl2e", "ec3e", "g-0e", "gs1e", "gl2e", "g-0e", "g-0e");
        y.act(0, 2, 0);
        y.act(1, 2, 0);
        y.act(4, 0, 0);
        y.act(5, 0, 0);
        y.act(2, 3, 0);
        y.night();
        Due.is("the own side and role at first, the first role too", Sight.told(y, 'v'), "[1, 0, 2, 0]");
        Due.is("turned to the role of who turned it", y.seat(3, 'c'), 2);
    }

    private static void traits() {
        for (int sign = 0; sign < 65536; sign++) {
            char it = (char) sign;
            NightfallCouncil x = Table.roles("g-0e");
            String got = "accepted";
            try {
                x.trait(0, it);
            } catch (IllegalArgumentException e) {
                got = "refused";
            }
            String due = "-jmvd".indexOf(it) >= 0 ? "accepted" : "refused";
            if (!got.equals(due)) {
                Due.is("the trait " + sign, got, due);
            }
        }
        for (char trait : "-jmvd".toCharArray()) {
            NightfallCouncil x = Table.roles("g-0e");
            Due.is("no trait at first", x.trait(0, trait), '-');
            Due.is("the trait as told", x.trait(0, '-'), trait);
        }
    }

    private static void threeToEightSeats() {
        Doc.says("There are 3 to 8 seats in a ring.");
        for (int size = 0; size <= 8; size++) {
            NightfallCouncil x = Table.roles("gn5e", "e-0e");
            for (int i = 0; i < size; i++) {
                x.bag(i == 0 ? 1 : 0);
            }
            for (int i = 0; i < size; i++) {
                x.list(i == 0 ? 1 : 0, 0);
            }
            if (size < 3) {
                Due.fails("a game of " + size, x, REFUSED, () -> x.deal(true, true));
                continue;
            }
            Due.is("a game of " + size, x.deal(true, true), size);
            Due.is("the seats of " + size, Sight.seats(x), size);
            Due.is("the last seat of " + size, x.seat(size - 1, 'w'), size - 1);
            int seats = size;
            Due.fails("no seat behind the last one", x, NONE, () -> x.seat(seats, 'w'));
            x.night();
            Due.is("who sits next to the evil seat 0 in a ring of " + size, Sight.told(x, 'v'),
                    "[1" + ", 0".repeat(size - 3) + ", 1]");
        }
        NightfallCouncil x = Table.roles("g-0e");
        for (int i = 0; i < 8; i++) {
            x.bag(0);
        }
        Due.fails("a bag for 9 seats", x, STATE, () -> x.bag(0));
    }

    private static void soManyOfEachRole() {
        Doc.says("A bag has at most so many of each role.");
        for (int amount = 0; amount <= 8; amount++) {
            NightfallCouncil x = Table.roles("g-0e", "e-0e");
            for (int i = 0; i < 8; i++) {
                x.bag(i < amount ? 0 : 1);
            }
            for (int i = 1; i <= amount; i++) {
                Due.is("as many as the bag has, " + amount, x.list(0, 0), i);
            }
            Due.fails("one more than " + amount, x, REFUSED, () -> x.list(0, 0));
            for (int i = amount + 1; i <= 8; i++) {
                Due.is("the others of the bag", x.list(1, 1), i);
            }
            Due.fails("one more than all", x, REFUSED, () -> x.list(1, 1));
            Due.is("all of the bag", x.deal(true, true), 8);
        }
        NightfallCouncil y = Table.roles("g-0e");
        for (int i = 1; i <= 8; i++) {
            Due.is("of one role", y.bag(0), i);
        }
        Due.fails("nine of one role", y, STATE, () -> y.bag(0));
    }

    private static void dealtAsTold() {
        Doc.says("To deal takes roles from the bag for the seats by rising numbers, as told; each seat has a card then, "
                + "its role, and believes in it; a drunk card is dealt with a role in which the seat believes.");
        NightfallCouncil x = Table.roles("e-0e", "g-0e", "gs5e", "gl5e", "gn5e", "gk5e", "gp5e", "gb5e", "g-0e", "g-0e");
        Table.deal(x, true, true, 9, 2, 0, 2, 7, 1, 4, 9);
        Due.is("cards by rising seats", Sight.row(x, 'c'), "[9, 2, 0, 2, 7, 1, 4, 9]");
        Due.is("each believes in its card", Sight.row(x, 'b'), "[9, 2, 0, 2, 7, 1, 4, 9]");
        x.gather();
        Table.list(x, true, true, new int[] {2, 2, 9, 9, 0, 1, 4, 7}, new int[] {0, 1, 2, 3, 4, 5, 6, 7});
        Due.is("the same bag as told anew", Sight.row(x, 'c'), "[2, 2, 9, 9, 0, 1, 4, 7]");
        Due.is("what only drunk ones believe has no meaning", Sight.row(x, 'b'), "[2, 2, 9, 9, 0, 1, 4, 7]");
    }

    private static void believedAsDealt() {
        NightfallCouncil x = Table.roles("g-0ed", "e-0e", "gs5e", "g-0ed", "g-0e");
        Table.dealDrunk(x, true, true, new int[] {0, 3, 0, 1, 4, 2, 0}, new int[] {4, 2, 1, 0, 9, -1, 2});
        Due.is("drunk cards", Sight.row(x, 'c'), "[0, 3, 0, 1, 4, 2, 0]");
        Due.is("the drunk believe as told, the first and the last seat too", Sight.row(x, 'b'),
                "[4, 2, 1, 1, 4, 2, 2]");
        NightfallCouncil y = Table.roles("g-0ed", "e-0e", "g-0ed");
        y.bag(0);
        Due.fails("in no role below", y, NONE, () -> y.list(0, -1));
        Due.fails("in no role above", y, NONE, () -> y.list(0, 3));
        Due.fails("in a drunk role", y, REFUSED, () -> y.list(0, 2));
        Due.fails("in its own role", y, REFUSED, () -> y.list(0, 0));
        Due.is("in a role that is not in the bag", y.list(0, 1), 1);
    }

    private static void whatAllAreAtFirst() {
        Doc.says("All are alive, sober, with a ghost vote, without tellings, claims and bonds; it is the night 1.");
        for (int size : new int[] {3, 8}) {
            NightfallCouncil x = Table.roles("gs5e", "e-0e");
            int[] cards = new int[size];
            cards[size - 1] = 1;
            Table.deal(x, true, true, cards);
            String ones = "[1" + ", 1".repeat(size - 1) + "]";
            Due.is("all are alive", Sight.row(x, 'l'), ones);
            Due.is("living", x.living(), size);
            Due.is("none is poisoned", Sight.row(x, 'p'), ones.replace('1', '0'));
            Due.is("with a ghost vote", Sight.row(x, 'g'), ones);
            Due.is("without bonds", Sight.row(x, 'h'), ones.replace("1", "-1"));
            Due.is("without tellings", x.tellings(), 0);
            Due.fails("no telling is numbered 0", x, NONE, () -> x.telling(0, 'v'));
            Due.is("without claims", x.claimSide(0, 0, 'g'), 1);
            Due.is("the night 1", x.nights(), 1);
            Due.is("it is night", x.state(), 'n');
            for (int seat = 0; seat < size - 1; seat++) {
                Due.is("no act was told", x.act(seat, size - 1, 0), true);
            }
            x.night();
            Due.is("sober, so told what is so", Sight.told(x, 'v'), "[1" + ", 1".repeat(size - 2) + "]");
            Due.is("sober as it was told", Sight.told(x, 'f'), "[1" + ", 1".repeat(size - 2) + "]");
        }
    }

    private static void playersAtFirst() {
        Doc.says("A player sits on each seat, as many as it has as its number at first.");
        for (int size : new int[] {3, 8}) {
            NightfallCouncil x = Table.deal(Table.roles("g-0e"), true, true, new int[size]);
            for (int seat = 0; seat < size; seat++) {
                Due.is("the player of seat " + seat + " of " + size, x.seat(seat, 'w'), seat);
            }
            Due.fails("the last player sits on the last seat", x, WRONG, () -> x.sit(0, size - 1));
            Due.is("it can sit there again", x.sit(size - 1, size - 1), size - 1);
            if (size < 8) {
                Due.is("the next player sits nowhere", x.sit(0, size), 0);
            }
        }
        NightfallCouncil y = Table.deal(Table.roles("g-0e"), true, true, 0, 0, 0);
        y.sit(1, 7);
        y.gather();
        Table.list(y, true, true, new int[3], new int[3]);
        Due.is("at first in the next game, too", Sight.row(y, 'w'), "[0, 1, 2]");
    }
}
