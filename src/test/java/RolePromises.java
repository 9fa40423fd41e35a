/** Promises 1 to 7, 10, 28 and 43 at their bounds. */
final class RolePromises {
    private static final Class<?> STATE = IllegalStateException.class;
    private static final Class<?> INDEX = IndexOutOfBoundsException.class;
    private static final Class<?> UNSUPPORTED = UnsupportedOperationException.class;
    private static final int[] NO_ROLES = {Integer.MIN_VALUE, -1, 10, 11, Integer.MAX_VALUE};

    private RolePromises() {
    }

    static void all() {
        newCouncil();
        role();
        register();
        trait();
        turnInto();
        bag();
        list();
        whatIsBelieved();
        empty();
        ways();
        roles();
    }

    private static NightfallCouncil ten() {
        return Table.roles("gl5e", "gs5e", "gn5e", "ec5e", "e-0e", "g-0e", "g-0e", "g-0e", "g-0e", "gl9o");
    }

    private static void newCouncil() {
        Doc.promise(1, "Creates a council without roles and a game.");
        NightfallCouncil x = new NightfallCouncil();
        Due.is("no roles", x.roles(), 0);
        Due.is("no game", "" + x.state() + x.gather(), "-false");
        Due.fails("nobody is living", x, STATE, x::living);
        Due.fails("no role to put into the bag", x, INDEX, () -> x.bag(0));
        Due.fails("nothing to deal", x, UNSUPPORTED, () -> x.deal(true, true));
        NightfallCouncil y = ten();
        Due.is("councils have roles of their own", "" + new NightfallCouncil().roles() + y.roles(), "010");
    }

    private static void role() {
        Doc.promise(2, "Adds a role.", "Returns its number.");
        NightfallCouncil x = new NightfallCouncil();
        for (int role = 0; role < 10; role++) {
            Due.is("its number", x.role(role < 5 ? 'g' : 'e', "-bxdpkchws".charAt(role), role, role < 5 ? 'e' : 'o'), role);
        }
        Due.fails("an 11th one", x, STATE, () -> x.role('g', 'l', 0, 'e'));
        Due.is("ten are there", x.roles(), 10);
        x.gather();
        x.empty();
        Due.fails("an 11th one with an empty bag", x, STATE, () -> x.role('e', 'n', 9, 'o'));
        NightfallCouncil y = Table.deal(Table.roles("g-0e"), true, true, 0, 0, 0);
        Due.fails("in a game", y, STATE, () -> y.role('g', 'l', 0, 'e'));
        y.gather();
        Due.is("after it", y.role('g', 'l', 0, 'e'), 1);
    }

    private static void register() {
        Doc.promise(3, "Tells as what a role registers.", "Returns the role before.");
        NightfallCouncil x = ten();
        Due.is("the first role as the last one", "" + x.register(0, 'e', 9) + x.register(0, 'e', 9), "09");
        Due.is("the last role as the first one", "" + x.register(9, 'e', 0) + x.register(9, 'g', 0), "90");
        for (int role : NO_ROLES) {
            Due.fails("no role", x, INDEX, () -> x.register(role, 'g', 0));
            Due.fails("as no role", x, INDEX, () -> x.register(0, 'g', role));
        }
        Table.deal(x, true, true, 0, 9, 1, 1, 4, 5);
        x.act(0, 1, 0);
        x.act(1, 0, 0);
        x.act(2, 0, 0);
        x.act(3, 1, 0);
        x.night();
        Due.is("sides and roles of the first and the last one", Sight.told(x, 'v'), "[0, 1, 0, 9]");
        Due.fails("not in a game", x, STATE, () -> x.register(0, 'g', 0));
    }

    private static void trait() {
        Doc.promise(4, "Gives a role a trait.", "Returns the trait before.");
        NightfallCouncil x = ten();
        Due.is("one trait in place of another one", "" + x.trait(0, 'j') + x.trait(0, 'm') + x.trait(0, 'm')
                + x.trait(0, '-') + x.trait(0, '-'), "-jmm-");
        Due.is("the last role's", "" + x.trait(9, 'v') + x.trait(9, 'd') + x.trait(9, 'd'), "-vd");
        for (int role : NO_ROLES) {
            Due.fails("no role", x, INDEX, () -> x.trait(role, 'j'));
        }
        x.trait(5, 'v');
        Table.deal(x, true, true, 4, 5, 6);
        x.night();
        Due.is("one with a veto", x.veto(1), false);
        Due.fails("not in a game", x, STATE, () -> x.trait(0, 'j'));
    }

    private static void turnInto() {
        Doc.promise(5, "Tells to which role a role turns others.", "Returns the role before.");
        NightfallCouncil x = ten();
        Due.is("the first role to the last one", "" + x.turnInto(0, 9) + x.turnInto(0, 0) + x.turnInto(0, 9), "090");
        Due.is("the last role to the first one", "" + x.turnInto(9, 0) + x.turnInto(9, 9), "90");
        for (int role : NO_ROLES) {
            Due.fails("no role", x, INDEX, () -> x.turnInto(role, 0));
            Due.fails("to no role", x, INDEX, () -> x.turnInto(0, role));
        }
        for (int into : new int[] {0, 9}) {
            NightfallCouncil y = ten();
            y.turnInto(3, into);
            Table.deal(y, true, true, 3, 5, 5, 5);
            y.act(0, 3, 0);
            y.night();
            Due.is("turned to the role " + into, y.seat(3, 'c'), into);
        }
    }

    private static void bag() {
        Doc.promise(6, "Puts a role into the bag once more.", "Returns how many roles the bag has.");
        NightfallCouncil x = ten();
        for (int role : NO_ROLES) {
            Due.fails("no role", x, INDEX, () -> x.bag(role));
        }
        int[] cards = {9, 0, 9, 9, 0, 4, 4, 4};
        for (int i = 0; i < 8; i++) {
            Due.is("how many it has", x.bag(cards[i]), i + 1);
        }
        Due.is("so many of each", x.ways(), 560L);
        for (int role = 0; role < 10; role++) {
            int ninth = role;
            Due.fails("a ninth one", x, STATE, () -> x.bag(ninth));
        }
        Due.is("still as many", x.ways(), 560L);
        x.empty();
        Due.is("anew", x.bag(4), 1);
    }

    private static void list() {
        Doc.promise(7, "Lists a role for the next seat, and in what it believes, of no meaning for a role that is not drunk.",
                "Returns how many are listed.");
        NightfallCouncil x = ten();
        Due.fails("of an empty bag", x, UNSUPPORTED, () -> x.list(0, 0));
        int[] cards = {9, 0, 9, 9, 0, 4, 4, 4};
        for (int card : cards) {
            x.bag(card);
        }
        for (int i = 0; i < 8; i++) {
            Due.is("how many are listed", x.list(cards[7 - i], cards[i]), i + 1);
        }
        for (int role : new int[] {0, 4, 9, 5}) {
            Due.fails("one more than the bag has", x, UNSUPPORTED, () -> x.list(role, role));
        }
        for (int role : NO_ROLES) {
            Due.fails("no role", x, INDEX, () -> x.list(role, 0));
        }
        x.deal(true, true);
        Due.is("each for the next seat", Sight.row(x, 'c'), "[4, 4, 4, 0, 9, 9, 0, 9]");
    }

    private static void whatIsBelieved() {
        NightfallCouncil x = Table.roles("g-0e", "e-0e", "g-0ed", "g-0ed");
        for (int card : new int[] {0, 0, 0, 0, 1, 2, 2}) {
            x.bag(card);
        }
        int listed = 0;
        for (int believed : new int[] {Integer.MIN_VALUE, -1, 4, Integer.MAX_VALUE}) {
            Due.is("of no meaning", x.list(0, believed), ++listed);
            Due.fails("of a meaning for a drunk one", x, INDEX, () -> x.list(2, believed));
        }
        Due.is("a drunk role has no meaning either", x.list(1, 3), ++listed);
        Due.fails("but has for a drunk one", x, UNSUPPORTED, () -> x.list(2, 3));
        Due.is("the first role", x.list(2, 0), ++listed);
        Due.is("the last one that is not drunk", x.list(2, 1), ++listed);
        x.deal(true, true);
        Due.is("beliefs", Sight.row(x, 'b'), "[0, 0, 0, 0, 1, 0, 1]");
    }

    private static void empty() {
        Doc.promise(10, "Empties the bag and the list.", "Returns how many roles the bag had.");
        NightfallCouncil x = ten();
        Due.is("an empty one", x.empty(), 0);
        for (int size = 1; size <= 8; size++) {
            for (int i = 0; i < size; i++) {
                x.bag(i % 2);
            }
            x.list(0, 0);
            Due.is("how many it had", x.empty(), size);
            Due.is("it is empty", "" + x.ways() + x.empty(), "10");
            Due.fails("nothing can be listed", x, UNSUPPORTED, () -> x.list(0, 0));
        }
        x.bag(0);
        Due.is("the list was emptied, too", x.list(0, 0), 1);
        Due.fails("one is too few to deal", x, UNSUPPORTED, () -> x.deal(true, true));
        x.empty();
        Table.deal(x, true, true, 0, 4, 5);
        Due.fails("not in a game", x, STATE, x::empty);
        x.night();
        Table.execute(x, 0, 1, 0, 2);
        Due.fails("nor in one that is over", x, STATE, x::empty);
        x.gather();
        Due.is("after it", x.empty(), 3);
    }

    private static void ways() {
        Doc.promise(28, "Returns how many ways there are to deal the bag to as many seats as it has roles.",
                "Returns how many.");
        NightfallCouncil x = ten();
        Due.is("an empty bag", x.ways(), 1L);
        long due = 1;
        for (int role = 2; role < 10; role++) {
            x.bag(role);
            due *= role - 1;
            Due.is("different roles", x.ways(), due);
        }
        Due.is("the most ways", due, 40320L);
        x.empty();
        for (int i = 0; i < 8; i++) {
            x.bag(9);
            Due.is("one role alone", x.ways(), 1L);
        }
        x.empty();
        int[] cards = {0, 0, 1, 1, 2, 2, 3, 3};
        long[] ways = {1, 1, 3, 6, 30, 90, 630, 2520};
        for (int i = 0; i < 8; i++) {
            x.bag(cards[i]);
            Due.is("pairs", x.ways(), ways[i]);
        }
        for (int card : cards) {
            x.list(card, card);
            Due.is("what is listed changes nothing", x.ways(), 2520L);
        }
        x.deal(true, true);
        x.night();
        Due.is("nor does a game", x.ways(), 2520L);
    }

    private static void roles() {
        Doc.promise(43, "Returns the number of roles.", "Returns how many.");
        NightfallCouncil x = new NightfallCouncil();
        for (int role = 0; role < 10; role++) {
            Due.is("how many", x.roles(), role);
            x.role('g', '-', 0, 'e');
        }
        Due.is("the most", x.roles(), 10);
        Due.fails("one more", x, STATE, () -> x.role('g', '-', 0, 'e'));
        Table.deal(x, true, true, 0, 0, 0);
        Due.is("in a game", x.roles(), 10);
        x.gather();
        x.empty();
        Due.is("after it", x.roles(), 10);
    }
}
