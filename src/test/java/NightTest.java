/** Promises 12 and 13: acts and nights. */
public final class NightTest {
    private static final Class<?> OVER = IllegalStateException.class;
    private static final Class<?> DAY = UnsupportedOperationException.class;

    public static void main(String[] args) {
        promise12Act();
        promise12WrongCalls();
        promise13Night();
        orders();
        blocks();
        crossings();
        poison();
        protection();
        turning();
        turnedByAChangedCard();
        bonds();
        changedCards();
        changedDrunkCards();
        onceInAGame();
        winsAtDawn();
        Due.end("NightTest");
    }

    private static void promise12Act() {
        NightfallCouncil x = Table.game("ek5e", "gs6e", "gx1e", "gp2e");
        Due.is("an act told", x.act(0, 1, -1), true);
        Due.is("the same one", x.act(0, 1, 9), false);
        Due.is("in place of another one", x.act(0, 3, 0), false);
        Due.is("on itself", x.act(1, 1, 1), true);
        Due.is("two", x.act(2, 1, 0), true);
        Due.is("two others", x.act(2, 2, 3), false);
        Due.is("one dies", x.night(), 1);
        Due.is("the last one that was told, crossed", x.seat(2, 'l'), 0);
        x.dusk();
        Due.is("an act told for the next night", x.act(0, 3, 0), true);
        NightfallCouncil y = Table.game("ek5e", "g-0e", "g-0e", "g-0e");
        y.night();
        Due.is("nobody told an act", y.living(), 4);
        y.dusk();
        y.act(0, 1, 0);
        y.night();
        y.dusk();
        Due.is("acts are forgotten", y.night(), 0);
    }

    private static void promise12WrongCalls() {
        NightfallCouncil x = Table.game("ek5e", "gs6e", "gx1e", "gn2e", "g-0e", "gh3e", "gw4e");
        Class<?> none = IndexOutOfBoundsException.class;
        Class<?> noAct = java.util.NoSuchElementException.class;
        for (int seat : new int[] {-1, 7, 8, Integer.MIN_VALUE, Integer.MAX_VALUE}) {
            Due.fails("no seat acts", x, none, () -> x.act(seat, 0, 1));
            Due.fails("no target", x, none, () -> x.act(0, seat, 1));
            Due.fails("no target of one without an act", x, none, () -> x.act(4, seat, 1));
            Due.fails("no target of 'n'", x, none, () -> x.act(3, seat, 1));
            for (int by : new int[] {2, 5, 6}) {
                Due.fails("no second one", x, none, () -> x.act(by, 0, seat));
            }
        }
        for (int by : new int[] {2, 5, 6}) {
            Due.fails("the second one is the target", x, IllegalArgumentException.class, () -> x.act(by, 1, 1));
        }
        Due.fails("no act", x, noAct, () -> x.act(4, 0, 1));
        Due.fails("'n' has no target", x, noAct, () -> x.act(3, 0, 1));
        x.act(0, 2, 0);
        x.night();
        Due.fails("act by day", x, DAY, () -> x.act(0, 1, 0));
        Due.fails("a wrong act by day", x, DAY, () -> x.act(-1, 9, 9));
        x.dusk();
        Due.fails("a dead seat", x, noAct, () -> x.act(2, 0, 1));
        Due.fails("a dead seat without a second one", x, none, () -> x.act(2, 0, 7));
        Due.fails("a dead seat with its target twice", x, IllegalArgumentException.class, () -> x.act(2, 0, 0));
        x.night();
        Table.execute(x, 0, 0, 0, 1, 3);
        Due.is("the good have won", x.state(), 'g');
        Due.fails("act as the game is over", x, OVER, () -> x.act(-1, 9, 9));
        NightfallCouncil y = Table.roles("gx1e", "g-0ed", "e-0e");
        y.bag(0);
        y.bag(1);
        y.bag(2);
        y.list(1, 0);
        y.list(0, 0);
        y.list(2, 2);
        y.deal(true, true);
        Due.is("a drunk one acts as it believes", y.act(0, 1, 2), true);
        Due.fails("and needs a second one as it believes", y, none, () -> y.act(0, 1, 3));
    }

    private static void promise13Night() {
        NightfallCouncil x = Table.game("ek5e", "ek5e", "ek5e", "g-0e", "g-0e", "g-0e", "g-0e", "g-0e");
        x.act(0, 3, 0);
        x.act(1, 4, 0);
        x.act(2, 4, 0);
        Due.is("two die, one of them of two attacks", x.night(), 2);
        Due.is("evil has as many", x.state(), 'e');
        Due.fails("a night as the game is over", x, OVER, x::night);
        NightfallCouncil y = Table.game("ek5e", "g-0e", "g-0e", "g-0e", "g-0e");
        y.act(0, 3, 0);
        Due.is("one dies", y.night(), 1);
        Due.fails("a night by day", y, DAY, y::night);
        y.dusk();
        y.act(0, 3, 0);
        Due.is("a dead one does not die", y.night(), 0);
        y.dusk();
        y.act(0, 1, 0);
        Due.is("one more dies", y.night(), 1);
    }

    /** By the orders of the roles, then by seats. */
    private static void orders() {
        for (int blocker = 4; blocker <= 6; blocker++) {
            NightfallCouncil x = Table.game("ek5e", "gb" + blocker + "e", "g-0e", "g-0e");
            x.act(0, 2, 0);
            x.act(1, 0, 0);
            Due.is("a block of the order " + blocker, x.night(), blocker == 4 ? 0 : 1);
        }
        NightfallCouncil y = Table.game("gb5e", "ek5e", "g-0e", "g-0e");
        y.act(0, 1, 0);
        y.act(1, 2, 0);
        Due.is("a block of the same order, of a seat ahead", y.night(), 0);
        NightfallCouncil z = Table.game("gp9e", "ek0e", "g-0e", "g-0e");
        z.act(0, 2, 0);
        z.act(1, 2, 0);
        Due.is("the last one protects from the first one", z.night(), 0);
        NightfallCouncil w = Table.game("gs3e", "gs2e", "gs2e", "e-0e");
        w.act(0, 3, 0);
        w.act(1, 3, 0);
        w.act(2, 3, 0);
        w.night();
        Due.is("tellings by orders, then by seats", Due.all(() -> w.telling(0, 's'), () -> w.telling(1, 's'),
                () -> w.telling(2, 's')).toString(), "[1, 2, 0]");
    }

    private static void blocks() {
        NightfallCouncil x = Table.game("gb1e", "gs6e", "gn7e", "e-0e", "gb0e");
        x.act(0, 2, 0);
        x.act(1, 3, 0);
        x.night();
        Due.is("an act without a target is left out", Due.all(x::tellings, () -> x.actOf(0)).toString(), "[1, s]");
        x.dusk();
        x.act(0, 1, 0);
        x.act(1, 3, 0);
        x.act(4, 0, 0);
        x.night();
        Due.is("a block that is left out", x.tellings(), 3);
        x.dusk();
        x.act(0, 0, 0);
        x.act(1, 3, 0);
        x.night();
        Due.is("a block lasts a night", x.tellings(), 5);
    }

    private static void crossings() {
        NightfallCouncil x = Table.game("ek5e", "gx1e", "gx2e", "gs6e", "g-0e", "g-0e");
        x.act(1, 3, 4);
        x.act(2, 4, 5);
        x.act(0, 3, 0);
        x.act(3, 5, 0);
        x.night();
        Due.is("3 was 4, and that 5", x.seat(5, 'l'), 0);
        Due.is("5 was 4, which is good", x.telling(0, 'v'), 0);
        Due.is("the target as it was told", x.telling(0, 't'), 5);
        NightfallCouncil y = Table.game("gx1e", "gx2e", "ek5e", "g-0e", "g-0e");
        y.act(0, 3, 4);
        y.act(1, 4, 3);
        y.act(2, 3, 0);
        y.night();
        Due.is("crossed twice", y.seat(3, 'l'), 0);
        NightfallCouncil z = Table.game("gx1e", "gh2e", "ew3e", "g-0e", "g-0e");
        z.act(0, 3, 4);
        z.act(1, 3, 4);
        z.act(2, 4, 3);
        z.night();
        Due.is("nothing comes of a bond with itself", Due.all(() -> z.seat(3, 'h'), () -> z.seat(4, 'h')).toString(),
                "[-1, -1]");
        Due.is("nor of a change with itself", Due.all(() -> z.seat(3, 'c'), () -> z.seat(4, 'c')).toString(),
                "[3, 4]");
        z.dusk();
        z.act(0, 3, 0);
        z.act(1, 3, 4);
        z.night();
        Due.is("the second one is not crossed", Due.all(() -> z.seat(0, 'h'), () -> z.seat(4, 'h')).toString(),
                "[4, 0]");
        NightfallCouncil w = Table.game("gx1e", "gx2e", "ek5e", "g-0e", "g-0e");
        w.act(0, 3, 4);
        w.act(1, 3, 0);
        w.act(2, 4, 0);
        w.night();
        Due.is("crossings are as told", w.seat(0, 'l'), 0);
    }

    private static void poison() {
        NightfallCouncil x = Table.game("ed3e", "gs4e", "gp2e", "g-0e", "gs2e");
        x.act(0, 1, 0);
        x.act(1, 0, 0);
        x.act(4, 0, 0);
        x.night();
        Due.is("a poisoned one is told what is not so", x.telling(1, 'v'), 0);
        Due.is("it was not sober", x.telling(1, 'f'), 0);
        Due.is("one that acts ahead of the poison is sober", x.telling(0, 'v'), 1);
        Due.is("poisoned by day", x.seat(1, 'p'), 1);
        x.dusk();
        Due.is("not by the next night", x.seat(1, 'p'), 0);
        x.act(1, 0, 0);
        x.night();
        Due.is("told what is so", x.telling(2, 'v'), 1);
        NightfallCouncil y = Table.game("ed1e", "gp2e", "ek3e", "g-0e", "g-0e", "g-0e");
        y.act(0, 1, 0);
        y.act(1, 3, 0);
        y.act(2, 3, 0);
        Due.is("a poisoned one protects nobody", y.night(), 1);
        y.dusk();
        y.act(0, 2, 0);
        y.act(2, 4, 0);
        Due.is("a poisoned one kills nobody", y.night(), 0);
        NightfallCouncil z = Table.game("ed1e", "ed1e", "gs3e", "g-0e", "g-0e");
        z.act(0, 1, 0);
        z.act(1, 2, 0);
        z.night();
        Due.is("a poisoned one poisons nobody", z.seat(2, 'p'), 0);
        z.dusk();
        z.act(0, 0, 0);
        z.night();
        Due.is("one can poison itself", z.seat(0, 'p'), 1);
    }

    private static void protection() {
        NightfallCouncil x = Table.game("gp2e", "ek5e", "g-0e", "g-0e", "gh1o");
        x.act(0, 2, 0);
        x.act(1, 2, 0);
        Due.is("protected", x.night(), 0);
        x.dusk();
        x.act(1, 2, 0);
        x.act(4, 2, 0);
        Due.is("a night later it is not", x.night(), 2);
        NightfallCouncil y = Table.game("gp2e", "ek5e", "g-0e", "g-0e", "gh1o", "g-0e");
        y.act(0, 2, 0);
        y.act(1, 3, 0);
        y.act(4, 3, 2);
        Due.is("who is bonded dies, protected or not", y.night(), 2);
        Due.is("both are dead", Due.all(() -> y.seat(2, 'l'), () -> y.seat(3, 'l')).toString(), "[0, 0]");
    }

    private static void turning() {
        NightfallCouncil x = Table.roles("ec4e", "ec4e", "gp2e", "ek5e", "g-0e", "g-0ed", "gs6e", "gn6e");
        x.turnInto(0, 6);
        x.turnInto(1, 7);
        Table.deal(x, true, false, 0, 1, 2, 4, 4, 4, 4, 4);
        x.act(0, 3, 0);
        x.act(1, 3, 0);
        x.night();
        Due.is("turned by the last one", Due.all(() -> x.seat(3, 'c'), () -> x.seat(3, 'b')).toString(), "[7, 7]");
        x.dusk();
        x.act(0, 4, 0);
        x.act(2, 4, 0);
        x.night();
        Due.is("protected from turning", x.seat(4, 'c'), 4);
        Due.is("a turned one does its new act", x.actOf(0), 'n');
        NightfallCouncil y = Table.roles("ec4e", "ek5e", "g-0e", "g-0ed", "gs6e");
        y.turnInto(0, 3);
        Table.deal(y, true, false, 0, 1, 4, 2, 2, 2, 2);
        y.act(0, 2, 0);
        y.act(1, 3, 0);
        y.act(2, 0, 0);
        y.night();
        Due.is("turned into a drunk one", Due.all(() -> y.seat(2, 'c'), () -> y.seat(2, 'b')).toString(), "[3, 4]");
        Due.is("as it acted it was not turned", y.telling(0, 'f'), 1);
        y.dusk();
        y.act(0, 4, 0);
        y.act(1, 4, 0);
        y.act(2, 0, 0);
        y.night();
        Due.is("a dead one is not turned", y.seat(4, 'c'), 2);
        Due.is("the drunk one is told what is not so", y.telling(1, 'v'), 0);
        NightfallCouncil z = Table.roles("gc4e", "ek5e", "g-0e");
        z.turnInto(0, 2);
        Table.deal(z, true, false, 0, 1, 2, 2);
        z.act(0, 1, 0);
        z.night();
        Due.is("wins are looked at by the turned cards", z.state(), 'g');
    }

    /** The card that turns is the one that the seat has as its act is done. */
    private static void turnedByAChangedCard() {
        NightfallCouncil x = Table.roles("ec4e", "ew3e", "g-0e", "gs6e", "gn6e");
        x.turnInto(0, 3);
        x.turnInto(2, 4);
        Table.deal(x, true, false, 0, 1, 2, 2, 2, 2, 2);
        x.act(1, 0, 2);
        x.act(0, 5, 0);
        x.night();
        Due.is("the act stays, the card has changed", Due.all(() -> x.seat(0, 'c'), () -> x.seat(5, 'c')).toString(),
                "[2, 4]");
    }

    private static void bonds() {
        NightfallCouncil x = Table.game("gh1e", "ek5e", "g-0e", "g-0e", "g-0e", "g-0e", "g-0e", "gh2e");
        x.act(0, 2, 3);
        x.act(7, 4, 5);
        x.night();
        Due.is("two bonds", bondsOf(x), "[-1, -1, 3, 2, 5, 4, -1, -1]");
        x.dusk();
        x.act(0, 2, 4);
        x.night();
        Due.is("in place of bonds of both", bondsOf(x), "[-1, -1, 4, -1, 2, -1, -1, -1]");
        x.dusk();
        x.act(0, 4, 2);
        x.night();
        Due.is("the same bond again", bondsOf(x), "[-1, -1, 4, -1, 2, -1, -1, -1]");
        x.dusk();
        x.act(1, 2, 0);
        x.act(0, 0, 5);
        Due.is("two die", x.night(), 2);
        Due.is("bonds stay", bondsOf(x), "[5, -1, 4, -1, 2, 0, -1, -1]");
        x.dusk();
        x.act(0, 2, 3);
        x.act(7, 3, 4);
        x.night();
        Due.is("the dead are not bonded anew", bondsOf(x), "[5, -1, 4, -1, 2, 0, -1, -1]");
        NightfallCouncil y = Table.game("gh1e", "ek5e", "ek5e", "g-0e", "g-0e", "g-0e", "g-0e");
        y.act(0, 3, 4);
        y.act(1, 3, 0);
        y.act(2, 4, 0);
        Due.is("two attacked ones that are bonded", y.night(), 2);
    }

    private static String bondsOf(NightfallCouncil x) {
        return java.util.stream.IntStream.range(0, Sight.seats(x)).mapToObj(seat -> x.seat(seat, 'h')).toList()
                .toString();
    }

    private static void changedCards() {
        NightfallCouncil x = Table.game("ew3e", "gs6e", "gl7e", "g-0e", "g-0e");
        x.act(0, 1, 2);
        x.act(1, 0, 0);
        x.act(2, 0, 0);
        x.night();
        Due.is("cards of both", Due.all(() -> x.seat(1, 'c'), () -> x.seat(1, 'b'), () -> x.seat(2, 'c'),
                () -> x.seat(2, 'b')).toString(), "[2, 2, 1, 1]");
        Due.is("acts are those as the night began", Due.all(() -> x.telling(0, 's'), () -> x.actOf(0),
                () -> x.telling(1, 's'), () -> x.actOf(1)).toString(), "[1, s, 2, l]");
        x.dusk();
        x.act(1, 3, 0);
        x.act(2, 3, 0);
        x.night();
        Due.is("in the next night acts are of the new cards", Due.all(() -> x.telling(2, 's'), () -> x.actOf(2),
                () -> x.telling(3, 's'), () -> x.actOf(3)).toString(), "[2, s, 1, l]");
        NightfallCouncil y = Table.game("ew6e", "ek5e", "g-0e", "gs7e", "g-0e", "g-0e");
        y.act(1, 2, 0);
        y.night();
        y.dusk();
        y.act(0, 2, 3);
        y.night();
        Due.is("cards of the dead change, too", Due.all(() -> y.seat(2, 'c'), () -> y.seat(3, 'c')).toString(),
                "[3, 2]");
    }

    private static void changedDrunkCards() {
        NightfallCouncil x = Table.roles("ew3e", "gs6e", "g-0ed", "gl7e", "g-0ed");
        for (int role = 0; role < 5; role++) {
            x.bag(role);
        }
        x.list(0, 0);
        x.list(1, 1);
        x.list(2, 3);
        x.list(4, 1);
        x.list(3, 3);
        x.deal(true, false);
        x.act(0, 1, 2);
        x.act(1, 0, 0);
        x.act(2, 0, 0);
        x.night();
        Due.is("a drunk one believes as the other one had", Due.all(() -> x.seat(1, 'c'), () -> x.seat(1, 'b'),
                () -> x.seat(2, 'c'), () -> x.seat(2, 'b')).toString(), "[2, 3, 1, 1]");
        Due.is("drunk as it is done", x.telling(0, 'f'), 0);
        Due.is("drunk no more as it is done", x.telling(1, 'f'), 1);
        x.dusk();
        x.act(0, 1, 3);
        x.night();
        Due.is("two drunk ones", Due.all(() -> x.seat(1, 'c'), () -> x.seat(1, 'b'), () -> x.seat(3, 'c'),
                () -> x.seat(3, 'b')).toString(), "[4, 1, 2, 3]");
    }

    private static void onceInAGame() {
        NightfallCouncil x = Table.game("gs6o", "ek5e", "gb1e", "g-0e", "g-0e", "gn7o");
        x.act(0, 1, 0);
        x.act(2, 0, 0);
        x.night();
        Due.is("left out", x.tellings(), 1);
        x.dusk();
        x.act(0, 1, 0);
        x.night();
        Due.is("done after it was left out", Due.all(x::tellings, () -> x.actOf(0), () -> x.actOf(1)).toString(),
                "[2, n, s]");
        x.dusk();
        Due.is("it can be told again", x.act(0, 1, 0), true);
        x.night();
        Due.is("but is not done", x.tellings(), 2);
        NightfallCouncil y = Table.game("ed1e", "gk2o", "g-0e", "g-0e", "g-0e");
        y.act(0, 1, 0);
        y.act(1, 2, 0);
        Due.is("no effect", y.night(), 0);
        y.dusk();
        y.act(1, 2, 0);
        Due.is("once in a game all the same", y.night(), 0);
        NightfallCouncil z = Table.roles("ec4e", "gs6o", "gk5o", "g-0e", "e-0e");
        z.turnInto(0, 2);
        Table.deal(z, true, false, 0, 1, 3, 3, 3, 3);
        z.act(0, 1, 0);
        z.act(1, 0, 0);
        z.night();
        z.dusk();
        z.act(1, 3, 0);
        z.act(0, 2, 0);
        Due.is("of whichever roles it is", z.night(), 0);
        z.dusk();
        z.act(2, 3, 0);
        Due.is("another seat with the role does it", z.night(), 1);
    }

    private static void winsAtDawn() {
        NightfallCouncil x = Table.game("g-0e", "g-0e", "g-0e");
        x.night();
        Due.is("nobody is evil", x.state(), 'g');
        NightfallCouncil y = Table.game("e-0e", "e-0e", "g-0e", "g-0e");
        y.night();
        Due.is("evil ones are as many", y.state(), 'e');
        for (boolean isTwo : new boolean[] {true, false}) {
            NightfallCouncil z = Table.deal(Table.roles("ek5e", "gk6e", "g-0e"), true, isTwo, 0, 1, 2, 2, 2);
            z.act(0, 2, 0);
            z.act(1, 3, 0);
            z.night();
            Due.is("three are living", z.state(), 'd');
            z.dusk();
            z.act(0, 0, 0);
            z.act(1, 0, 0);
            Due.is("only the evil one dies", z.night(), 1);
            Due.is("no evil one ahead of two living", z.state(), 'g');
        }
        NightfallCouncil w = Table.roles("ek5e", "g-0e", "g-0e", "g-0ej", "g-0em");
        Table.deal(w, true, false, 0, 1, 3, 4);
        w.act(0, 2, 0);
        w.night();
        Due.is("neither a jester nor a mayor wins at dawn", w.state(), 'd');
        NightfallCouncil all = Table.game("ek5e", "gh1e", "g-0e", "g-0e");
        all.act(0, 0, 0);
        all.act(1, 0, 2);
        all.night();
        Due.is("bonded evil dies with another one", Due.all(all::state, all::living).toString(), "[g, 2]");
        NightfallCouncil two = Table.deal(Table.roles("ek5e", "g-0e"), true, true, 0, 1, 1, 1);
        two.act(0, 1, 0);
        two.night();
        two.dusk();
        two.act(0, 2, 0);
        two.night();
        Due.is("evil wins with two", two.state(), 'e');
    }
}
