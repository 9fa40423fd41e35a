/** What 'Terms' says of wins. */
final class WinTerms {
    private static final Class<?> OVER = IllegalStateException.class;

    private WinTerms() {
    }

    static void all() {
        jesters();
        jestersThatWereNotExecuted();
        jestersFirst();
        mayorsWithThree();
        mayorsThatCannot();
        noLivingCardIsEvil();
        asManyEvilOnes();
        atMostTwo();
        neitherAtDawn();
        over();
        stillToBeAsked();
    }

    private static void jesters() {
        Doc.says("Wins, the first of these: 'j' a sober jester was just executed; 'm' a living sober mayor, as a day ends "
                + "with three living seats and nobody was executed; 'g' no living card is evil; 'e' evil living cards are "
                + "at least as many as good ones, or, if that was told, at most two are living.");
        NightfallCouncil x = Table.game("ed1e", "g-0ej", "g-0e", "g-0e", "g-0e");
        x.night();
        Due.is("a sober jester", "" + Table.execute(x, 0, 1, 0, 2, 3) + x.state(), "1j");
        NightfallCouncil y = Table.game("ed1e", "g-0ej", "g-0e", "g-0e", "g-0e");
        y.act(0, 1, 0);
        y.night();
        Due.is("a poisoned jester", "" + Table.execute(y, 0, 1, 0, 2, 3) + y.state(), "1n");
        NightfallCouncil z = Table.believed(new int[] {0, 2, 2, 3, 4}, "ed1e", "g-0ed", "g-0ej", "g-0e", "g-0e");
        z.night();
        Due.is("one that only believes in it", "" + Table.execute(z, 0, 1, 0, 2, 3) + z.state(), "1n");
    }

    private static void jestersThatWereNotExecuted() {
        NightfallCouncil x = Table.game("ek1e", "g-0ej", "g-0e", "gh0e", "g-0e", "g-0e");
        x.act(3, 1, 2);
        x.night();
        Due.is("one that dies of its bond", "" + Table.execute(x, 0, 2, 0, 3, 4) + x.state() + x.seat(1, 'l'), "2n0");
        NightfallCouncil y = Table.game("ek1e", "g-0ej", "g-0e", "g-0e", "g-0e", "g-0e");
        y.act(0, 1, 0);
        y.night();
        Due.is("one that died of the night", y.state(), 'd');
        Due.is("one that was dead", "" + Table.execute(y, 0, 1, 0, 2, 3) + y.state(), "-1n");
        NightfallCouncil z = Table.game("ek1e", "g-0ej", "g-0e", "g-0e", "g-0e");
        z.night();
        Due.is("one that was nominated", "" + Table.execute(z, 0, 1, 0, 2) + z.state(), "-1n");
        z.night();
        Due.is("one that was executed a day later", "" + Table.execute(z, 0, 1, 0, 2, 3) + z.state(), "1j");
    }

    private static void jestersFirst() {
        NightfallCouncil x = Table.game("e-0ej", "g-0e", "g-0e");
        x.night();
        Due.is("ahead of the good", "" + Table.execute(x, 0, 0, 1, 2) + x.state(), "0j");
        NightfallCouncil y = Table.game("e-0e", "g-0ej", "g-0e");
        y.night();
        Due.is("ahead of the evil", "" + Table.execute(y, 0, 1, 0, 2) + y.state(), "1j");
        NightfallCouncil z = Table.game("e-0e", "g-0ej", "g-0em", "g-0e");
        z.night();
        Due.is("with a mayor and three living", "" + Table.execute(z, 0, 1, 0, 2) + z.state() + z.living(), "1j3");
    }

    private static void mayorsWithThree() {
        for (int seats = 3; seats <= 8; seats++) {
            int[] cards = new int[seats];
            cards[1] = 1;
            cards[2] = 2;
            NightfallCouncil x = Table.deal(Table.roles("g-0e", "e-0e", "g-0em"), true, true, cards);
            x.night();
            Due.is("nobody was executed of " + seats, "" + x.dusk() + x.state(), seats == 3 ? "-1m" : "-1n");
        }
        NightfallCouncil y = Table.game("e-0e", "g-0em", "g-0e", "g-0e");
        y.night();
        Due.is("three are living, one was executed", "" + Table.execute(y, 0, 3, 0, 1) + y.living() + y.state(), "33n");
        y.night();
        Due.is("three are living as the day ends", "" + y.dusk() + y.state(), "-1m");
        NightfallCouncil first = Table.game("g-0e", "e-0e", "g-0em", "g-0e");
        first.night();
        Due.is("the first seat was executed", "" + Table.execute(first, 1, 0, 1, 2) + first.living() + first.state(),
                "03n");
        NightfallCouncil z = Table.game("ek1e", "g-0em", "g-0e", "g-0e");
        z.act(0, 3, 0);
        z.night();
        Due.is("who was to be executed is dead", "" + Table.execute(z, 0, 3, 0, 1) + z.state(), "-1m");
        NightfallCouncil veto = Table.roles("e-0e", "g-0em", "g-0ev");
        Table.deal(veto, true, true, 0, 1, 2);
        veto.night();
        Table.closed(veto, 0, 1, 2);
        veto.veto(2);
        Due.is("after a veto", "" + veto.dusk() + veto.state(), "-1m");
        NightfallCouncil evil = Table.game("e-0em", "g-0e", "g-0e");
        evil.night();
        Due.is("an evil mayor", "" + evil.dusk() + evil.state(), "-1m");
    }

    private static void mayorsThatCannot() {
        NightfallCouncil x = Table.game("ed1e", "g-0em", "g-0e");
        x.act(0, 1, 0);
        x.night();
        Due.is("a poisoned one", "" + x.dusk() + x.state(), "-1n");
        x.night();
        Due.is("sober on the next day", "" + x.dusk() + x.state(), "-1m");
        NightfallCouncil y = Table.game("ek1e", "g-0em", "g-0e", "g-0e");
        y.act(0, 1, 0);
        y.night();
        Due.is("a dead one", "" + y.dusk() + y.state(), "-1n");
        NightfallCouncil z = Table.believed(new int[] {0, 2, 2}, "e-0e", "g-0ed", "g-0em");
        z.gather();
        z.empty();
        Table.dealDrunk(z, true, true, new int[] {0, 1, 1}, new int[] {0, 2, 2});
        z.night();
        Due.is("one that only believes in it", "" + z.dusk() + z.state(), "-1n");
        NightfallCouncil w = Table.game("e-0e", "g-0em", "g-0e");
        w.night();
        Due.is("with two living ones, one was executed", "" + Table.execute(w, 0, 2, 0, 1) + w.state(), "2e");
    }

    private static void noLivingCardIsEvil() {
        NightfallCouncil x = Table.roles("e-0e", "g-0e");
        x.register(0, 'g', 1);
        x.register(1, 'e', 0);
        Table.deal(x, true, true, 0, 0, 1, 1, 1);
        x.night();
        Due.is("two evil cards, whatever they register as", x.state(), 'd');
        Table.execute(x, 0, 0, 2, 3, 4);
        Due.is("one evil card", x.state(), 'n');
        x.night();
        Table.execute(x, 2, 1, 2, 3);
        Due.is("no living one", x.state(), 'g');
        NightfallCouncil y = Table.game("ek1e", "gk1e", "gk1e", "g-0e");
        y.act(0, 1, 0);
        y.act(1, 0, 0);
        y.night();
        Due.is("at dawn", y.state(), 'g');
        NightfallCouncil z = Table.game("ek1e", "gk1e", "gk1e");
        for (int seat = 0; seat < 3; seat++) {
            z.act(seat, seat, 0);
        }
        z.night();
        Due.is("no living one at all", "" + z.living() + z.state(), "0g");
    }

    private static void asManyEvilOnes() {
        for (int evil = 1; evil <= 4; evil++) {
            for (int good = 0; good <= 4; good++) {
                if (evil + good < 3) {
                    continue;
                }
                int[] cards = new int[evil + good];
                java.util.Arrays.fill(cards, 0, evil, 1);
                NightfallCouncil x = Table.deal(Table.roles("g-0e", "e-0e"), true, false, cards);
                x.night();
                Due.is("evil ones " + evil + ", good ones " + good, x.state(), evil >= good ? 'e' : 'd');
            }
        }
        for (int evil = 2; evil <= 3; evil++) {
            int[] cards = new int[8];
            java.util.Arrays.fill(cards, 0, evil, 1);
            NightfallCouncil x = Table.deal(Table.roles("g-0e", "e-0e"), true, false, cards);
            for (int seat = 7; seat >= 2 * evil; seat--) {
                x.night();
                Due.is("more good ones up to " + seat, x.state(), 'd');
                Table.execute(x, 0, seat, 0, 1, 2, 3);
                Due.is("at dusk, up to " + seat, x.state(), seat == 2 * evil ? 'e' : 'n');
            }
        }
    }

    /** With two living ones evil has as many, or none is evil, so that it is no matter whether it was told. */
    private static void atMostTwo() {
        for (boolean isTwo : new boolean[] {false, true}) {
            NightfallCouncil x = Table.deal(Table.roles("ek5e", "g-0e"), true, isTwo, 0, 1, 1, 1);
            x.act(0, 1, 0);
            x.night();
            Due.is("three are living", x.state(), 'd');
            x.dusk();
            x.act(0, 2, 0);
            x.night();
            Due.is("two are living", x.state(), 'e');
            NightfallCouncil y = Table.deal(Table.roles("ek5e", "g-0e"), true, isTwo, 0, 1, 1);
            y.act(0, 0, 0);
            y.night();
            Due.is("two good ones are living", y.state(), 'g');
            NightfallCouncil z = Table.deal(Table.roles("ek5e", "g-0e"), true, isTwo, 0, 1, 1);
            z.night();
            Due.is("two are living at dusk", "" + Table.execute(z, 0, 1, 0, 2) + z.state(), "1e");
        }
    }

    private static void neitherAtDawn() {
        Doc.says("At dawn 'j' and 'm' are left out.");
        NightfallCouncil x = Table.game("ek1e", "g-0ej", "g-0em", "g-0e");
        x.act(0, 1, 0);
        x.night();
        Due.is("a jester died, a mayor lives of three", "" + x.living() + x.state(), "3d");
        NightfallCouncil y = Table.game("e-0e", "g-0em", "g-0e");
        y.night();
        Due.is("nobody was executed, three are living", y.state(), 'd');
    }

    /** A game that was won by each of the four. */
    private static NightfallCouncil won(char winner) {
        NightfallCouncil x = Table.game("ek9e", "gs1ej", "g-0em", "g-0ev");
        x.act(1, 0, 0);
        x.act(0, winner == 'g' ? 0 : 3, 0);
        x.night();
        if (winner == 'j') {
            Table.execute(x, 0, 1, 0, 2);
        } else if (winner == 'm') {
            x.dusk();
        } else if (winner == 'e') {
            Table.execute(x, 0, 2, 0, 1);
        }
        Due.is("who has won", x.state(), winner);
        return x;
    }

    private static void over() {
        Doc.says("A game that was won is over: nights, days, and what belongs to these, are no more.");
        for (char winner : "jmge".toCharArray()) {
            NightfallCouncil x = won(winner);
            Due.fails("act", x, OVER, () -> x.act(2, 1, 0));
            Due.fails("night", x, OVER, x::night);
            Due.fails("nominate", x, OVER, () -> x.nominate(2, 0));
            Due.fails("vote", x, OVER, () -> x.vote(2));
            Due.fails("close", x, OVER, x::close);
            Due.fails("veto", x, OVER, () -> x.veto(3));
            Due.fails("dusk", x, OVER, x::dusk);
            Due.fails("claimRole", x, OVER, () -> x.claimRole(0, 0, 0));
            Due.fails("claimSide", x, OVER, () -> x.claimSide(0, 0, 'g'));
            Due.fails("slip", x, OVER, () -> x.slip(0, 0));
            Due.fails("mend", x, OVER, x::mend);
            Due.fails("a second game", x, OVER, () -> x.deal(true, true));
            Due.fails("a role", x, OVER, () -> x.role('g', '-', 0, 'e'));
            Due.is("it can be gathered", x.gather(), true);
            Table.list(x, true, true, Table.upTo(4), Table.upTo(4));
            Due.is("the next game goes on", "" + x.state() + x.act(0, 1, 0) + x.night(), "ntrue1");
        }
    }

    private static void stillToBeAsked() {
        for (char winner : "jmge".toCharArray()) {
            NightfallCouncil x = won(winner);
            Due.is("nights", x.nights(), 1);
            Due.is("tellings", "" + x.tellings() + x.actOf(0) + x.telling(0, 'v'), "1s1");
            Due.is("void nights", x.voidNights(), 0);
            Due.fails("none is wrong", x, java.util.NoSuchElementException.class, x::firstWrong);
            Due.is("worlds", x.worlds(1) > 0 && x.openWorlds() > 0, true);
            Due.is("liars", x.leastLiars(), 0);
            Due.is("who sits down", x.sit(0, 7), 0);
            Due.is("sound", x.isSound(), true);
        }
    }
}
