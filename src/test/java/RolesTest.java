/** Promises 1 to 7, 10, 28 and 43: roles, the bag and the list. */
public final class RolesTest {
    public static void main(String[] args) {
        promise1NewObject();
        promise2Role();
        promise3Register();
        promise4Trait();
        promise5TurnInto();
        promise6Bag();
        promise7List();
        promise10Empty();
        promise28Ways();
        promise43Roles();
        Due.end("RolesTest");
    }

    private static void promise1NewObject() {
        NightfallCouncil x = new NightfallCouncil();
        Due.is("a new council's state", x.state(), '-');
        Due.is("a new council's roles", x.roles(), 0);
        Due.is("a new council's ways", x.ways(), 1L);
        Due.is("a new council is sound", x.isSound(), true);
        Due.is("a new council has no game to gather", x.gather(), false);
        Due.is("a new council's bag was empty", x.empty(), 0);
        for (int player = 0; player < 8; player++) {
            int who = player;
            Due.is("first ratings", Due.all(() -> x.rating(who, 'g'), () -> x.rating(who, 'e')).toString(),
                    "[1000, 1000]");
        }
    }

    private static void promise2Role() {
        NightfallCouncil x = new NightfallCouncil();
        Class<?> wrong = IllegalArgumentException.class;
        for (char side : new char[] {'q', 'G', '-', 0, 'g' + 256, 65535}) {
            Due.fails("role of no side", x, wrong, () -> x.role(side, 'k', 5, 'e'));
        }
        for (char act : new char[] {'q', 'K', 'e', 0, 'k' + 256, 65535}) {
            Due.fails("role of no act", x, wrong, () -> x.role('g', act, 5, 'e'));
        }
        for (char way : new char[] {'g', 'n', '-', 0, 'o' + 256}) {
            Due.fails("role of no way", x, wrong, () -> x.role('g', 'k', 5, way));
        }
        for (int order : new int[] {-1, 10, Integer.MIN_VALUE, Integer.MAX_VALUE}) {
            Due.fails("role of no order", x, wrong, () -> x.role('g', 'k', order, 'e'));
        }
        String acts = "-bxdpkchws";
        for (int i = 0; i < 10; i++) {
            char side = i % 2 == 0 ? 'g' : 'e';
            char way = i % 3 == 0 ? 'e' : 'o';
            Due.is("role " + i, x.role(side, acts.charAt(i), i, way), i);
        }
        Due.fails("an 11th role", x, IllegalStateException.class, () -> x.role('g', 'l', 0, 'e'));
        Due.fails("an 11th role of no act", x, wrong, () -> x.role('g', 'q', 0, 'e'));
        Due.fails("an 11th role of no order", x, wrong, () -> x.role('g', 'l', 10, 'e'));
        NightfallCouncil y = Table.game("gl0e", "gn9o", "e-0e");
        Due.fails("a role in a game", y, IllegalStateException.class, () -> y.role('g', 'l', 0, 'e'));
        Due.fails("a wrong role in a game", y, wrong, () -> y.role('g', 'l', 10, 'e'));
        y.gather();
        Due.is("a role after a game", y.role('g', 'l', 0, 'e'), 3);
    }

    private static void promise3Register() {
        NightfallCouncil x = Table.roles("gs5e", "e-0e", "gl6e");
        Class<?> none = IndexOutOfBoundsException.class;
        for (int role : new int[] {-1, 3, 10, Integer.MIN_VALUE, Integer.MAX_VALUE}) {
            Due.fails("register no role", x, none, () -> x.register(role, 'g', 0));
            Due.fails("register as no role", x, none, () -> x.register(0, 'g', role));
            Due.fails("register as no role and side", x, none, () -> x.register(0, 'q', role));
        }
        Due.fails("register as no side", x, IllegalArgumentException.class, () -> x.register(0, '-', 0));
        Due.is("register answers the role before", x.register(1, 'g', 2), 1);
        Due.is("register again", x.register(1, 'e', 0), 2);
        Due.is("register once more", x.register(1, 'g', 2), 0);
        Table.deal(x, true, false, 0, 1, 2);
        Due.fails("register in a game", x, IllegalStateException.class, () -> x.register(1, 'g', 2));
        Due.fails("register no side in a game", x, IllegalArgumentException.class,
                () -> x.register(1, 'q', 2));
        Due.fails("register no role in a game", x, none, () -> x.register(3, 'g', 2));
        x.act(0, 1, 0);
        x.act(2, 1, 0);
        x.night();
        Due.is("the side as which it registers is told", x.telling(0, 'v'), 0);
        Due.is("the role as which it registers is told", x.telling(1, 'v'), 2);
        Due.is("the card is what it is", x.seat(1, 'c'), 1);
    }

    private static void promise4Trait() {
        NightfallCouncil x = Table.roles("gs5e", "e-0e");
        for (int role : new int[] {-1, 2, Integer.MIN_VALUE, Integer.MAX_VALUE}) {
            Due.fails("a trait of no role", x, IndexOutOfBoundsException.class, () -> x.trait(role, 'j'));
            Due.fails("no trait of no role", x, IndexOutOfBoundsException.class, () -> x.trait(role, 'q'));
        }
        for (char trait : new char[] {'q', 'e', 'J', 0, 'j' + 256, 65535}) {
            Due.fails("no such trait", x, IllegalArgumentException.class, () -> x.trait(0, trait));
        }
        Due.is("traits before", Due.all(() -> x.trait(0, 'j'), () -> x.trait(0, 'm'), () -> x.trait(0, 'v'),
                () -> x.trait(0, 'd'), () -> x.trait(0, '-'), () -> x.trait(0, 'j'), () -> x.trait(1, '-'))
                .toString(), "[-, j, m, v, d, -, -]");
        x.trait(0, '-');
        NightfallCouncil y = Table.game("gs5e", "e-0e", "g-0e");
        Due.fails("a trait in a game", y, IllegalStateException.class, () -> y.trait(0, 'j'));
        Due.fails("no trait in a game", y, IllegalArgumentException.class, () -> y.trait(0, 'q'));
        Due.fails("no role in a game", y, IndexOutOfBoundsException.class, () -> y.trait(3, 'j'));
        y.gather();
        Due.is("the trait has not changed", y.trait(0, 'j'), '-');
    }

    private static void promise5TurnInto() {
        NightfallCouncil x = Table.roles("ec5e", "e-0e", "g-0e", "g-0e");
        for (int role : new int[] {-1, 4, Integer.MIN_VALUE, Integer.MAX_VALUE}) {
            Due.fails("no role turns", x, IndexOutOfBoundsException.class, () -> x.turnInto(role, 0));
            Due.fails("into no role", x, IndexOutOfBoundsException.class, () -> x.turnInto(0, role));
        }
        Due.is("turns into before", Due.all(() -> x.turnInto(0, 1), () -> x.turnInto(0, 2), () -> x.turnInto(3, 3),
                () -> x.turnInto(0, 1)).toString(), "[0, 1, 3, 2]");
        Table.deal(x, true, false, 0, 2, 2, 3);
        Due.fails("turnInto in a game", x, IllegalStateException.class, () -> x.turnInto(0, 0));
        Due.fails("turnInto no role in a game", x, IndexOutOfBoundsException.class, () -> x.turnInto(4, 0));
        Due.fails("turnInto to no role in a game", x, IndexOutOfBoundsException.class, () -> x.turnInto(0, 4));
        x.act(0, 1, 0);
        x.night();
        Due.is("turned into what was told", x.seat(1, 'c'), 1);
        NightfallCouncil y = Table.game("ec5e", "g-0e", "g-0e", "g-0e");
        y.act(0, 1, 0);
        y.night();
        Due.is("a role turns into itself at first", y.seat(1, 'c'), 0);
    }

    private static void promise6Bag() {
        NightfallCouncil x = Table.roles("gs5e", "e-0e");
        for (int role : new int[] {-1, 2, Integer.MIN_VALUE, Integer.MAX_VALUE}) {
            Due.fails("bag no role", x, IndexOutOfBoundsException.class, () -> x.bag(role));
        }
        for (int i = 1; i <= 8; i++) {
            Due.is("bag " + i, x.bag(i == 8 ? 1 : 0), i);
        }
        Due.fails("bag a 9th", x, IllegalStateException.class, () -> x.bag(0));
        Due.fails("bag a 9th of no role", x, IndexOutOfBoundsException.class, () -> x.bag(2));
        Due.is("8 of two roles", x.ways(), 8L);
        NightfallCouncil y = Table.game("gs5e", "e-0e", "g-0e");
        Due.fails("bag in a game", y, IllegalStateException.class, () -> y.bag(0));
        Due.fails("bag no role in a game", y, IndexOutOfBoundsException.class, () -> y.bag(3));
        y.gather();
        Due.is("the bag stays", y.bag(0), 4);
        Due.is("the bag was emptied", y.empty(), 4);
        for (int i = 1; i <= 8; i++) {
            Due.is("8 of one role, " + i, y.bag(2), i);
        }
    }

    private static void promise7List() {
        NightfallCouncil x = Table.roles("gs5e", "e-0e", "g-0ed", "g-0ed");
        Class<?> none = IndexOutOfBoundsException.class;
        Class<?> refused = UnsupportedOperationException.class;
        Due.fails("list no role", x, none, () -> x.list(4, 0));
        Due.fails("list role -1", x, none, () -> x.list(-1, 0));
        Due.fails("list from an empty bag", x, refused, () -> x.list(0, 0));
        Due.fails("list a drunk one that believes in no role, from an empty bag", x, none, () -> x.list(2, 4));
        x.bag(0);
        x.bag(0);
        x.bag(2);
        Due.fails("a drunk one believes in no role", x, none, () -> x.list(2, -1));
        Due.fails("a drunk one believes in no role", x, none, () -> x.list(2, Integer.MAX_VALUE));
        Due.fails("a drunk one believes in a drunk role", x, refused, () -> x.list(2, 3));
        Due.fails("a drunk one believes in itself", x, refused, () -> x.list(2, 2));
        Due.is("lists", Due.all(() -> x.list(0, 9), () -> x.list(2, 1), () -> x.list(0, Integer.MIN_VALUE))
                .toString(), "[1, 2, 3]");
        Due.fails("a third one of two", x, refused, () -> x.list(0, 0));
        Due.fails("one of none", x, refused, () -> x.list(1, 0));
        x.bag(0);
        Due.is("more can be listed as the bag grows", x.list(0, 0), 4);
        x.deal(true, true);
        Due.is("cards as listed", Due.all(() -> x.seat(0, 'c'), () -> x.seat(1, 'c'), () -> x.seat(2, 'c'),
                () -> x.seat(3, 'c')).toString(), "[0, 2, 0, 0]");
        Due.is("beliefs as listed", Due.all(() -> x.seat(0, 'b'), () -> x.seat(1, 'b'), () -> x.seat(2, 'b'))
                .toString(), "[0, 1, 0]");
        Due.fails("list in a game, in which all are listed", x, refused, () -> x.list(0, 0));
        Due.fails("list no role in a game", x, none, () -> x.list(4, 0));
        traitsBetweenListAndDeal();
    }

    /** What a seat believes in is by what its role is as it is dealt. */
    private static void traitsBetweenListAndDeal() {
        NightfallCouncil x = Table.roles("gs5e", "e-0e", "g-0ed");
        x.bag(0);
        x.bag(1);
        x.bag(2);
        x.list(0, 9);
        x.list(1, 1);
        x.list(2, 1);
        x.trait(0, 'd');
        x.trait(2, '-');
        x.deal(true, true);
        Due.is("a card that is not drunk any more", x.seat(2, 'b'), 2);
        Due.is("a card that is drunk since it was listed", x.seat(0, 'b'), 0);
        Due.is("sound all the same", x.isSound(), true);
    }

    private static void promise10Empty() {
        NightfallCouncil x = Table.roles("gs5e", "e-0e", "g-0e");
        x.bag(0);
        x.bag(1);
        x.list(0, 0);
        Due.is("empty answers the roles in the bag", x.empty(), 2);
        Due.is("nothing is in the bag", x.ways(), 1L);
        Due.is("empty again", x.empty(), 0);
        Due.is("bag anew", x.bag(1), 1);
        Due.is("the list was emptied", x.list(1, 1), 1);
        x.empty();
        Table.deal(x, false, false, 0, 0, 1);
        Due.fails("empty in a game", x, IllegalStateException.class, x::empty);
        x.gather();
        Due.is("empty after a game", x.empty(), 3);
    }

    private static void promise28Ways() {
        NightfallCouncil x = Table.roles("gs5e", "e-0e", "g-0e", "g-0e", "g-0e", "g-0e", "g-0e", "g-0e");
        long[] due = {1, 2, 6, 24, 120, 720, 5040, 40320};
        for (int role = 0; role < 8; role++) {
            x.bag(role);
            Due.is("ways of " + (role + 1), x.ways(), due[role]);
        }
        x.empty();
        int[] cards = {0, 0, 1, 0, 1, 2, 2, 2};
        long[] ways = {1, 1, 3, 4, 10, 60, 210, 560};
        for (int i = 0; i < 8; i++) {
            x.bag(cards[i]);
            Due.is("ways with several of a role, " + (i + 1), x.ways(), ways[i]);
        }
        for (int card : cards) {
            x.list(card, card);
        }
        x.deal(true, true);
        Due.is("ways in a game", x.ways(), 560L);
    }

    private static void promise43Roles() {
        NightfallCouncil x = new NightfallCouncil();
        for (int i = 0; i < 10; i++) {
            Due.is("roles", x.roles(), i);
            x.role('g', '-', 0, 'e');
        }
        Due.is("roles", x.roles(), 10);
        x.gather();
        Due.is("roles stay", x.roles(), 10);
    }
}
