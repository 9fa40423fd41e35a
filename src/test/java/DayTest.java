/** Promises 14 to 18, and the wins at dusk: nominations, votes, vetoes and executions. */
public final class DayTest {
    private static final Class<?> OVER = IllegalStateException.class;
    private static final Class<?> REFUSED = UnsupportedOperationException.class;
    private static final Class<?> NONE = IndexOutOfBoundsException.class;
    private static final Class<?> CANNOT = java.util.NoSuchElementException.class;
    private static final int[] NO_SEATS = {-1, 6, 8, Integer.MIN_VALUE, Integer.MAX_VALUE};

    public static void main(String[] args) {
        promise14Nominate();
        promise15Vote();
        ghostVotes();
        promise16Close();
        mostVotes();
        promise17Veto();
        whoCanVeto();
        promise18Dusk();
        executedAlready();
        jesters();
        mayors();
        otherWins();
        Due.end("DayTest");
    }

    /** Seat 0 is evil and kills, seat 1 poisons, all others are good. */
    private static NightfallCouncil six(char trait) {
        NightfallCouncil x = Table.roles("ek5e", "gd1e", "g-0e", "g-0e");
        x.trait(3, trait);
        Table.deal(x, true, false, 0, 1, 2, 3, 2, 2);
        return x;
    }

    private static void promise14Nominate() {
        NightfallCouncil x = six('v');
        Due.fails("nominate by night", x, REFUSED, () -> x.nominate(0, 1));
        Due.fails("nominate nobody by night", x, REFUSED, () -> x.nominate(-1, 9));
        x.act(0, 5, 0);
        x.night();
        for (int seat : NO_SEATS) {
            Due.fails("nobody nominates", x, NONE, () -> x.nominate(seat, 1));
            Due.fails("nominate nobody", x, NONE, () -> x.nominate(0, seat));
            Due.fails("a dead one nominates nobody", x, NONE, () -> x.nominate(5, seat));
        }
        Due.fails("a dead one nominates", x, CANNOT, () -> x.nominate(5, 1));
        Due.is("a dead one is nominated", x.nominate(0, 5), 1);
        Due.fails("has done so today", x, CANNOT, () -> x.nominate(0, 1));
        Due.fails("was nominated today", x, CANNOT, () -> x.nominate(1, 5));
        Due.is("one's own", x.nominate(1, 1), 2);
        x.vote(0);
        x.vote(2);
        x.vote(3);
        Due.fails("a wrong one closes nothing", x, CANNOT, () -> x.nominate(1, 2));
        Due.is("voting goes on", x.vote(4), 4);
        Due.is("one that is open is closed", x.nominate(2, 0), 3);
        Due.is("votes begin anew", x.vote(0), 1);
        Due.is("the closed one counts", x.close(), 1);
        x.veto(3);
        Due.fails("nominate after a veto", x, REFUSED, () -> x.nominate(3, 2));
        Due.fails("nominate nobody after a veto", x, REFUSED, () -> x.nominate(-1, 9));
        x.dusk();
        x.night();
        Due.is("each once on another day", Due.all(() -> x.nominate(0, 5), () -> x.nominate(1, 1)).toString(), "[1, 2]");
        Due.is("the votes of another day", Due.all(() -> x.vote(0), x::close).toString(), "[1, -1]");
        Table.execute(x, 2, 0, 1, 2, 3);
        Due.is("the good have won", x.state(), 'g');
        Due.fails("nominate as the game is over", x, OVER, () -> x.nominate(-1, 9));
    }

    private static void promise15Vote() {
        NightfallCouncil x = six('v');
        Due.fails("vote by night", x, REFUSED, () -> x.vote(0));
        x.night();
        Due.fails("vote for none", x, REFUSED, () -> x.vote(0));
        Due.fails("no seat votes for none", x, REFUSED, () -> x.vote(9));
        x.nominate(0, 1);
        for (int seat : NO_SEATS) {
            Due.fails("no seat votes", x, NONE, () -> x.vote(seat));
        }
        Due.is("who is nominated votes", x.vote(1), 1);
        Due.fails("votes twice", x, CANNOT, () -> x.vote(1));
        Due.is("another one", x.vote(0), 2);
        x.nominate(1, 2);
        Due.is("once for each", x.vote(1), 1);
        x.close();
        Due.fails("vote as it is closed", x, REFUSED, () -> x.vote(0));
        x.nominate(2, 3);
        x.veto(3);
        Due.fails("vote as it is dropped", x, REFUSED, () -> x.vote(0));
        x.dusk();
        Due.fails("vote in the next night", x, REFUSED, () -> x.vote(0));
        x.night();
        Due.fails("vote for none on the next day", x, REFUSED, () -> x.vote(0));
        x.nominate(2, 0);
        x.vote(1);
        x.vote(2);
        x.vote(3);
        x.dusk();
        Due.fails("vote as the game is over", x, OVER, () -> x.vote(9));
    }

    private static void ghostVotes() {
        NightfallCouncil x = six('v');
        x.act(0, 5, 0);
        x.night();
        x.nominate(0, 1);
        Due.is("a dead one votes", Due.all(() -> x.vote(5), () -> x.seat(5, 'g')).toString(), "[1, 0]");
        Due.fails("twice for one", x, CANNOT, () -> x.vote(5));
        x.nominate(1, 2);
        Due.fails("its vote is gone", x, CANNOT, () -> x.vote(5));
        Due.is("who lives keeps it", Due.all(() -> x.vote(0), () -> x.seat(0, 'g')).toString(), "[1, 1]");
        x.dusk();
        x.act(0, 4, 0);
        x.night();
        x.nominate(0, 1);
        Due.fails("gone for good", x, CANNOT, () -> x.vote(5));
        Due.is("another dead one", x.vote(4), 1);
        Due.is("half of four, with a dead one's vote", Due.all(() -> x.vote(0), x::close).toString(), "[2, 1]");
        x.veto(3);
        Due.is("a vote that was for nothing is gone, too", x.seat(4, 'g'), 0);
    }

    private static void promise16Close() {
        for (int votes = 0; votes <= 6; votes++) {
            NightfallCouncil x = six('-');
            x.night();
            x.nominate(0, 1);
            for (int voter = 0; voter < votes; voter++) {
                x.vote(voter);
            }
            Due.is("votes of six: " + votes, x.close(), votes >= 3 ? 1 : -1);
            NightfallCouncil y = six('-');
            y.act(0, 5, 0);
            y.night();
            y.nominate(0, 1);
            for (int voter = 0; voter < votes; voter++) {
                y.vote(voter);
            }
            Due.is("votes of five: " + votes, y.close(), votes >= 3 ? 1 : -1);
        }
        NightfallCouncil x = six('-');
        Due.fails("close by night", x, REFUSED, x::close);
        x.night();
        Due.fails("close none", x, REFUSED, x::close);
        x.nominate(0, 1);
        x.vote(2);
        Due.is("too few", x.close(), -1);
        Due.fails("close twice", x, REFUSED, x::close);
        x.nominate(1, 0);
        x.vote(1);
        x.vote(2);
        x.vote(3);
        x.dusk();
        Due.fails("close as the game is over", x, OVER, x::close);
    }

    private static void mostVotes() {
        NightfallCouncil x = six('-');
        x.night();
        Due.is("three votes", closed(x, 0, 1, 3), 1);
        Due.is("two votes are too few", closed(x, 1, 2, 2), 1);
        Due.is("as many, so none", closed(x, 2, 3, 3), -1);
        Due.is("as many again", closed(x, 3, 4, 3), -1);
        Due.is("more", closed(x, 4, 5, 4), 5);
        Due.is("fewer than the most", closed(x, 5, 0, 3), 5);
        Due.is("who has the most is executed", x.dusk(), 5);
        NightfallCouncil y = six('-');
        y.night();
        closed(y, 0, 1, 4);
        closed(y, 1, 2, 3);
        Due.is("as many as the second most", closed(y, 2, 3, 3), 1);
        y.nominate(3, 4);
        for (int voter = 0; voter < 4; voter++) {
            y.vote(voter);
        }
        Due.is("one that is open counts as the day ends", y.dusk(), -1);
        Due.is("nobody died", y.living(), 6);
    }

    private static int closed(NightfallCouncil x, int by, int seat, int votes) {
        x.nominate(by, seat);
        for (int voter = 0; voter < votes; voter++) {
            x.vote(voter);
        }
        return x.close();
    }

    private static void promise17Veto() {
        NightfallCouncil x = six('v');
        Due.fails("veto by night", x, REFUSED, () -> x.veto(3));
        Due.fails("nobody's veto by night", x, REFUSED, () -> x.veto(9));
        x.night();
        for (int seat : NO_SEATS) {
            Due.fails("nobody's veto", x, NONE, () -> x.veto(seat));
        }
        Due.fails("a seat without it", x, CANNOT, () -> x.veto(0));
        closed(x, 0, 1, 3);
        Due.is("somebody was to be executed", x.veto(3), true);
        Due.fails("a second veto today", x, REFUSED, () -> x.veto(3));
        Due.fails("nobody's second veto today", x, REFUSED, () -> x.veto(9));
        Due.fails("close after a veto", x, REFUSED, x::close);
        Due.is("nobody is executed today", x.dusk(), -1);
        Due.is("all are alive", x.living(), 6);
        x.night();
        Due.fails("once in a game", x, CANNOT, () -> x.veto(3));
        Due.is("a day later somebody is executed", Table.execute(x, 0, 1, 0, 1, 2), 1);
        x.night();
        Table.execute(x, 2, 0, 2, 3, 4);
        Due.fails("veto as the game is over", x, OVER, () -> x.veto(9));
        NightfallCouncil y = six('v');
        y.night();
        y.nominate(0, 1);
        y.vote(0);
        y.vote(1);
        y.vote(2);
        Due.is("an open one is dropped, not closed", y.veto(3), false);
        Due.is("nobody is executed", y.dusk(), -1);
    }

    private static void whoCanVeto() {
        NightfallCouncil x = six('v');
        x.act(1, 3, 0);
        x.night();
        Due.fails("a poisoned one", x, CANNOT, () -> x.veto(3));
        x.dusk();
        x.act(0, 3, 0);
        x.night();
        Due.fails("a dead one", x, CANNOT, () -> x.veto(3));
        NightfallCouncil y = Table.roles("ew5e", "g-0ev", "g-0e");
        Table.deal(y, true, false, 0, 1, 1, 2, 2);
        y.night();
        Due.is("one of two", y.veto(1), false);
        y.dusk();
        y.act(0, 1, 3);
        y.night();
        Due.is("each of them once", y.veto(2), false);
        y.dusk();
        y.night();
        Due.fails("a seat that has not the card any more", y, CANNOT, () -> y.veto(1));
        Due.is("a seat that has it now", y.veto(3), false);
    }

    private static void promise18Dusk() {
        NightfallCouncil x = six('-');
        Due.fails("dusk by night", x, REFUSED, x::dusk);
        x.night();
        Due.is("nobody is executed", Due.all(x::dusk, x::state, x::nights).toString(), "[-1, n, 2]");
        x.night();
        Due.is("one is executed", Due.all(() -> Table.execute(x, 0, 2, 0, 1, 3), x::living, () -> x.seat(2, 'l'))
                .toString(), "[2, 5, 0]");
        x.night();
        Table.execute(x, 1, 0, 1, 3, 4);
        Due.fails("dusk as the game is over", x, OVER, x::dusk);
        NightfallCouncil y = Table.game("gh1e", "ed2e", "g-0e", "g-0e", "g-0e", "g-0e");
        y.act(0, 2, 3);
        y.night();
        Due.is("who is bonded dies, too", Due.all(() -> Table.execute(y, 0, 3, 0, 1, 2), y::living,
                () -> y.seat(2, 'l'), () -> y.seat(3, 'l')).toString(), "[3, 4, 0, 0]");
        Due.is("the shown cards", y.openWorlds(), 24);
    }

    private static void executedAlready() {
        NightfallCouncil x = six('-');
        x.act(0, 2, 0);
        x.night();
        x.nominate(0, 2);
        x.vote(0);
        x.vote(1);
        x.vote(3);
        Due.is("a dead one is to be executed", x.close(), 2);
        Due.is("nobody is executed", Due.all(x::dusk, x::living).toString(), "[-1, 5]");
    }

    private static void jesters() {
        NightfallCouncil x = six('j');
        x.night();
        Due.is("a jester is executed", Table.execute(x, 0, 3, 0, 1, 2), 3);
        Due.is("it has won", x.state(), 'j');
        Due.is("ratings stay", Due.all(() -> x.rating(0, 'e'), () -> x.rating(3, 'g')).toString(), "[1000, 1000]");
        NightfallCouncil y = six('j');
        y.act(1, 3, 0);
        y.night();
        Table.execute(y, 0, 3, 0, 1, 2);
        Due.is("a poisoned jester has not won", y.state(), 'n');
        NightfallCouncil z = six('j');
        z.act(0, 3, 0);
        z.night();
        Table.execute(z, 0, 3, 0, 1, 2);
        Due.is("nor a dead one that is to be executed", z.state(), 'n');
        NightfallCouncil w = Table.game("gh1e", "e-0e", "g-0ej", "g-0e", "g-0e", "g-0e");
        w.act(0, 2, 3);
        w.night();
        Table.execute(w, 0, 3, 0, 1, 2);
        Due.is("nor one that dies of its bond", Due.all(w::state, () -> w.seat(2, 'l')).toString(), "[n, 0]");
        NightfallCouncil v = Table.game("g-0e", "e-0ej", "g-0e");
        v.night();
        Table.execute(v, 0, 1, 0, 2);
        Due.is("a jester wins ahead of the good", v.state(), 'j');
    }

    private static void mayors() {
        NightfallCouncil x = Table.game("ek5e", "g-0em", "g-0e", "gd1e");
        x.night();
        x.dusk();
        Due.is("four are living", x.state(), 'n');
        x.act(0, 2, 0);
        x.night();
        x.dusk();
        Due.is("three are living and nobody was executed", x.state(), 'm');
        Due.is("mayors win for the good", Due.all(() -> x.rating(0, 'e'), () -> x.rating(1, 'g'),
                () -> x.rating(2, 'g'), () -> x.rating(3, 'g')).toString(), "[984, 1016, 1016, 1016]");
        NightfallCouncil y = Table.game("ek5e", "g-0em", "g-0e", "gd1e");
        y.act(0, 2, 0);
        y.act(3, 1, 0);
        y.night();
        y.dusk();
        Due.is("a poisoned mayor", y.state(), 'n');
        NightfallCouncil z = Table.game("ek5e", "g-0em", "g-0e", "g-0e");
        z.act(0, 1, 0);
        z.night();
        z.dusk();
        Due.is("a dead mayor", z.state(), 'n');
        NightfallCouncil w = Table.game("e-0e", "g-0em", "g-0e", "g-0e");
        w.night();
        Table.execute(w, 1, 2, 1, 3);
        Due.is("three are living, but one was executed", w.state(), 'n');
        NightfallCouncil v = Table.game("ek5e", "g-0em", "g-0e", "g-0e");
        v.act(0, 2, 0);
        v.night();
        Due.is("who was to be is dead", Table.execute(v, 1, 2, 1, 3), -1);
        Due.is("so nobody was executed", v.state(), 'm');
        NightfallCouncil evil = Table.game("ek5em", "g-0e", "g-0e");
        evil.night();
        evil.dusk();
        Due.is("an evil mayor", Due.all(evil::state, () -> evil.rating(0, 'e')).toString(), "[m, 984]");
    }

    private static void otherWins() {
        NightfallCouncil x = Table.game("e-0e", "g-0e", "g-0e");
        x.night();
        Table.execute(x, 0, 0, 1, 2);
        Due.is("no living card is evil", x.state(), 'g');
        NightfallCouncil y = Table.game("e-0e", "g-0e", "g-0e");
        y.night();
        Table.execute(y, 0, 1, 0, 2);
        Due.is("evil ones are as many", y.state(), 'e');
        NightfallCouncil z = Table.roles("e-0e", "g-0e");
        z.register(0, 'g', 1);
        z.register(1, 'e', 0);
        Table.deal(z, true, false, 0, 1, 1);
        z.night();
        Due.is("by the cards' own sides", z.state(), 'd');
        NightfallCouncil all = Table.game("gh1e", "e-0e", "g-0e");
        all.act(0, 0, 1);
        all.night();
        Table.execute(all, 0, 0, 0, 1);
        Due.is("the last evil one dies of its bond", Due.all(all::state, all::living).toString(), "[g, 1]");
    }
}
