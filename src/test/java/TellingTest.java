/** Promises 25 to 27 and 38 to 41: tellings, slips of the moderator and what mends them. */
public final class TellingTest {
    private static final Class<?> NONE = IndexOutOfBoundsException.class;

    public static void main(String[] args) {
        promise25Tellings();
        atMostSixty();
        promise26Telling();
        promise27ActOf();
        whatIsNotSo();
        neighbours();
        promise38Slip();
        promise39FirstWrong();
        promise40VoidNights();
        promise41Mend();
        Due.end("TellingTest");
    }

    private static void promise25Tellings() {
        NightfallCouncil x = Table.game("gs5e", "gl5e", "gn5e", "e-0e", "gk6e");
        Due.is("no tellings", x.tellings(), 0);
        x.act(0, 3, 0);
        x.act(4, 2, 0);
        Due.is("an act that is told is no telling", x.tellings(), 0);
        x.night();
        Due.is("two tellings, of whom 'n' needs no target", x.tellings(), 2);
        x.dusk();
        x.act(1, 3, 0);
        x.night();
        Due.is("the dead are told nothing", x.tellings(), 3);
        x.gather();
        Due.fails("tellings without a game", x, IllegalStateException.class, x::tellings);
    }

    private static void atMostSixty() {
        NightfallCouncil x = Table.deal(Table.roles("gn5e", "e-0e"), false, false, 0, 0, 0, 0, 0, 0, 0, 1);
        for (int night = 1; night <= 9; night++) {
            x.night();
            x.dusk();
            Due.is("tellings of " + night, x.tellings(), Math.min(60, 7 * night));
        }
        Due.is("the last one", Due.all(() -> x.telling(59, 'n'), () -> x.telling(59, 's'), x::nights).toString(),
                "[9, 3, 10]");
        Due.fails("the 61st is lost", x, NONE, () -> x.telling(60, 'v'));
    }

    private static void promise26Telling() {
        NightfallCouncil x = Table.game("gs5e", "gl5e", "gn5e", "e-0e", "ed1e");
        x.act(0, 3, 0);
        x.act(1, 3, 0);
        x.act(4, 1, 0);
        x.night();
        x.dusk();
        x.act(0, 1, 0);
        x.night();
        Due.is("tellings", seen(x), "[1 0 3 1 1, 1 1 3 4 0, 1 2 2 1 1, 2 0 1 0 1, 2 2 2 1 1]");
        for (int telling : new int[] {-1, 5, 60, Integer.MIN_VALUE, Integer.MAX_VALUE}) {
            Due.fails("no telling", x, NONE, () -> x.telling(telling, 'v'));
            Due.fails("nothing of no telling", x, NONE, () -> x.telling(telling, 'q'));
            Due.fails("no telling's act", x, NONE, () -> x.actOf(telling));
        }
        for (char what : new char[] {'q', 'a', '-', 0, 'v' + 256, 65535}) {
            Due.fails("nothing of a telling", x, IllegalArgumentException.class, () -> x.telling(0, what));
        }
    }

    private static String seen(NightfallCouncil x) {
        return java.util.stream.IntStream.range(0, x.tellings()).mapToObj(telling -> x.telling(telling, 'n') + " "
                + x.telling(telling, 's') + " " + x.telling(telling, 't') + " " + x.telling(telling, 'v') + " "
                + x.telling(telling, 'f')).toList().toString();
    }

    private static void promise27ActOf() {
        NightfallCouncil x = Table.game("gs7e", "gl6e", "gn5e", "e-0e", "g-0e");
        x.act(0, 3, 0);
        x.act(1, 3, 0);
        x.night();
        Due.is("acts", Due.all(() -> x.actOf(0), () -> x.actOf(1), () -> x.actOf(2)).toString(), "[n, l, s]");
        Table.execute(x, 0, 3, 0, 1, 2);
        Due.is("acts as the game is over", x.actOf(2), 's');
    }

    /** The other side, the next role around, one more and 0 behind 2. */
    private static void whatIsNotSo() {
        NightfallCouncil x = Table.roles("gs5e", "gl5e", "gn5e", "e-0e", "g-0e", "g-0ed");
        for (int card : new int[] {5, 5, 5, 5, 5, 3, 4, 4}) {
            x.bag(card);
        }
        for (int believed : new int[] {0, 0, 1, 1, 2}) {
            x.list(5, believed);
        }
        x.list(3, 3);
        x.list(4, 4);
        x.list(4, 4);
        x.deal(true, false);
        x.act(0, 5, 0);
        x.act(1, 6, 0);
        x.act(2, 5, 0);
        x.act(3, 0, 0);
        x.night();
        Due.is("for the drunk", seen(x), "[1 0 5 0 0, 1 1 6 1 0, 1 2 5 4 0, 1 3 0 0 0, 1 4 4 2 0]");
        NightfallCouncil y = Table.roles("ed1e", "gn5e", "g-0e", "g-0e");
        y.register(2, 'e', 2);
        Table.deal(y, true, false, 2, 1, 2, 3, 0);
        y.act(4, 1, 0);
        y.night();
        Due.is("0 behind 2", y.telling(0, 'v'), 0);
    }

    private static void neighbours() {
        NightfallCouncil x = Table.game("gn5e", "gk6e", "e-0e", "gn4e", "e-0e", "g-0e", "g-0e");
        x.night();
        Due.is("next to two evil ones", Due.all(() -> x.telling(0, 's'), () -> x.telling(0, 'v'),
                () -> x.telling(1, 's'), () -> x.telling(1, 'v')).toString(), "[3, 2, 0, 0]");
        x.dusk();
        x.act(1, 2, 0);
        x.night();
        x.dusk();
        x.act(1, 1, 0);
        x.night();
        Due.is("the next living one is good", x.telling(4, 'v'), 1);
        x.dusk();
        x.night();
        Due.is("the ring is one", Due.all(() -> x.telling(6, 's'), () -> x.telling(6, 'v'),
                () -> x.telling(7, 's'), () -> x.telling(7, 'v')).toString(), "[3, 1, 0, 0]");
        NightfallCouncil y = Table.roles("gn5e", "gk6e", "g-0e", "e-0e");
        y.register(2, 'e', 2);
        Table.deal(y, true, false, 0, 1, 2, 3, 2);
        for (int target : new int[] {4, 1}) {
            y.act(1, target, 0);
            y.night();
            y.dusk();
        }
        Due.is("evil and good", y.telling(0, 'v'), 1);
        Due.is("another good one registers as evil", y.telling(1, 'v'), 1);
        y.night();
        Due.is("both are evil in a ring of three", y.telling(2, 'v'), 2);
        NightfallCouncil z = Table.game("gk5e", "gk5e", "gn6e", "e-0e");
        z.act(0, 0, 0);
        z.act(1, 1, 0);
        z.night();
        Due.is("evil has won with two", z.state(), 'e');
    }

    private static void promise38Slip() {
        NightfallCouncil x = Table.game("gs5e", "gl5e", "e-0e", "g-0e");
        x.act(0, 2, 0);
        x.night();
        for (int telling : new int[] {-1, 1, 60, Integer.MIN_VALUE, Integer.MAX_VALUE}) {
            Due.fails("slip of no telling", x, NONE, () -> x.slip(telling, 0));
            Due.fails("slip of no telling to no number", x, NONE, () -> x.slip(telling, 10));
        }
        for (int number : new int[] {-1, 10, Integer.MIN_VALUE, Integer.MAX_VALUE}) {
            Due.fails("slip to no number", x, IllegalArgumentException.class, () -> x.slip(0, number));
        }
        Due.is("numbers before", Due.all(() -> x.slip(0, 9), () -> x.slip(0, 0), () -> x.slip(0, 0)).toString(),
                "[1, 9, 0]");
        Due.is("the number told", x.telling(0, 'v'), 0);
        x.dusk();
        Due.is("slip by night", x.slip(0, 1), 0);
        x.night();
        Table.execute(x, 0, 2, 0, 1);
        Due.fails("slip as the game is over", x, IllegalStateException.class, () -> x.slip(-1, 10));
    }

    private static void promise39FirstWrong() {
        NightfallCouncil x = Table.game("gs5e", "gl5e", "ed0e", "g-0e", "g-0e");
        Class<?> right = java.util.NoSuchElementException.class;
        Due.fails("no telling is wrong", x, right, x::firstWrong);
        x.act(2, 1, 0);
        x.act(0, 2, 0);
        x.act(1, 3, 0);
        x.night();
        Due.fails("what is not so is due for the poisoned", x, right, x::firstWrong);
        x.slip(1, 3);
        Due.is("what is so is wrong for them", x.firstWrong(), 1);
        x.slip(0, 2);
        Due.is("the first of two", x.firstWrong(), 0);
        x.slip(0, 1);
        x.slip(1, 4);
        Due.fails("all as due again", x, right, x::firstWrong);
        x.slip(0, 0);
        Table.execute(x, 0, 2, 0, 1, 3);
        Due.is("as the game is over", Due.all(x::state, x::firstWrong).toString(), "[g, 0]");
    }

    private static void promise40VoidNights() {
        NightfallCouncil x = Table.game("gs5e", "e-0e", "g-0e", "g-0e");
        Due.is("no nights", x.voidNights(), 0);
        for (int night = 1; night <= 4; night++) {
            x.act(0, 1, 0);
            x.night();
            Due.is("no wrong telling", x.voidNights(), 0);
            x.dusk();
        }
        x.slip(2, 0);
        Due.is("nights 3 and 4 of those that went by", x.voidNights(), 2);
        x.night();
        Due.is("and 5", x.voidNights(), 3);
        x.slip(1, 0);
        Due.is("from the first wrong one on", x.voidNights(), 4);
        Table.execute(x, 0, 1, 0, 2);
        Due.is("as the game was won by day", Due.all(x::state, x::voidNights).toString(), "[g, 4]");
        NightfallCouncil y = Table.game("gs5e", "ek6e", "g-0e", "g-0e");
        y.act(0, 1, 0);
        y.night();
        y.slip(0, 0);
        y.dusk();
        y.act(1, 1, 0);
        y.night();
        Due.is("as the game was won at dawn", Due.all(y::state, y::voidNights).toString(), "[g, 2]");
    }

    private static void promise41Mend() {
        NightfallCouncil x = Table.game("gs5e", "gl5e", "ed0e", "g-0e", "g-0e");
        Class<?> right = java.util.NoSuchElementException.class;
        Due.fails("nothing to mend", x, right, x::mend);
        x.act(2, 1, 0);
        x.act(0, 2, 0);
        x.act(1, 3, 0);
        x.night();
        x.slip(0, 7);
        x.slip(1, 3);
        Due.is("the first one is mended", x.mend(), 1);
        Due.is("it is told now", x.telling(0, 'v'), 1);
        Due.is("then the next one, to what is not so", x.mend(), 4);
        Due.is("that is told now", x.telling(1, 'v'), 4);
        Due.fails("all are mended", x, right, x::mend);
        x.slip(0, 7);
        Table.execute(x, 0, 2, 0, 1, 3);
        Due.fails("mend as the game is over", x, IllegalStateException.class, x::mend);
    }
}
