/** What 'Terms' says of each act. */
final class ActTerms {
    private ActTerms() {
    }

    static void all() {
        blocks();
        blockedInOneNight();
        crosses();
        poisons();
        poisonUpToTheEndOfTheDay();
        protects();
        attacks();
        turns();
        bonds();
        bondsOfTheLiving();
        changes();
        changesOfDrunkCards();
        toldSides();
        toldRoles();
        toldNeighbours();
        nextLivingNeighbours();
        noEffect();
        whatIsNotSo();
        asItIsDone();
    }

    private static void blocks() {
        Doc.says("'b' blocks: an act of the target that comes later in this night is left out.");
        for (int order = 0; order <= 9; order++) {
            NightfallCouncil x = Table.game("gb5e", "ek" + order + "e", "g-0e", "g-0e");
            x.act(0, 1, 0);
            x.act(1, 2, 0);
            Due.is("an act of the order " + order + " of a seat behind", x.night(), order < 5 ? 1 : 0);
            NightfallCouncil y = Table.game("ek" + order + "e", "gb5e", "g-0e", "g-0e");
            y.act(1, 0, 0);
            y.act(0, 2, 0);
            Due.is("an act of the order " + order + " of a seat ahead", y.night(), order <= 5 ? 1 : 0);
        }
        NightfallCouncil x = Table.game("gb5e", "gb6e", "ek7e", "g-0e", "g-0e");
        x.act(0, 1, 0);
        x.act(1, 2, 0);
        x.act(2, 3, 0);
        Due.is("a block that is left out blocks nothing", x.night(), 1);
    }

    private static void blockedInOneNight() {
        NightfallCouncil x = Table.game("gb0e", "gn5e", "gs5e", "e-0e", "g-0e");
        x.act(0, 1, 0);
        x.act(2, 3, 0);
        x.night();
        Due.is("'n' is left out", Sight.told(x, 's'), "[2]");
        x.dusk();
        x.act(0, 0, 0);
        x.night();
        Due.is("not in the next night", Sight.told(x, 's'), "[2, 1]");
        x.dusk();
        x.act(0, 2, 0);
        x.night();
        Due.is("one who told no act has none to be left out", Sight.told(x, 's'), "[2, 1, 1]");
    }

    private static void crosses() {
        Doc.says("'x' crosses both, as told.");
        NightfallCouncil x = Table.game("gx0e", "gx1e", "gl5e", "gl5e", "gl5e", "gl5e", "e-0e", "g-0e");
        x.act(0, 6, 7);
        x.act(1, 6, 2);
        x.act(2, 6, 0);
        x.act(3, 7, 0);
        x.act(4, 2, 0);
        x.act(5, 0, 0);
        x.night();
        Due.is("the second crossing is of 6 and 2, not of 7 and 2", Sight.told(x, 'v'), "[7, 2, 6, 0]");
        Due.is("targets are told as they were", Sight.told(x, 't'), "[6, 7, 2, 0]");
        NightfallCouncil y = Table.game("gx0e", "gl5e", "e-0e", "g-0e");
        y.act(0, 0, 1);
        y.act(1, 1, 0);
        y.night();
        Due.is("one crosses oneself", y.telling(0, 'v'), 0);
    }

    private static void poisons() {
        Doc.says("'d' poisons the target from then on to the end of the next day.");
        for (int order = 4; order <= 6; order++) {
            NightfallCouncil x = Table.game("gs" + order + "e", "gd5e", "gs" + order + "e", "e-0e", "gd5e");
            x.act(0, 3, 0);
            x.act(2, 3, 0);
            x.act(1, 0, 0);
            x.act(4, 2, 0);
            x.night();
            Due.is("sober ahead of the poison, " + order, Sight.told(x, 'f'), order < 6 ? "[1, 1]" : "[0, 0]");
            Due.is("poisoned since", Sight.row(x, 'p'), "[1, 0, 1, 0, 0]");
        }
        NightfallCouncil y = Table.game("gd5e", "gs5e", "gd5e", "e-0e", "g-0e");
        y.act(0, 1, 0);
        y.act(1, 3, 0);
        y.night();
        Due.is("at one order the seat ahead is first", y.telling(0, 'f'), 0);
        NightfallCouncil z = Table.game("gd5e", "g-0e", "e-0e");
        z.act(0, 0, 0);
        z.night();
        Due.is("oneself", Sight.row(z, 'p'), "[1, 0, 0]");
    }

    private static void poisonUpToTheEndOfTheDay() {
        NightfallCouncil x = Table.game("gd5e", "g-0ej", "e-0e", "g-0e", "g-0e");
        x.act(0, 1, 0);
        x.night();
        Due.is("as the day begins", x.seat(1, 'p'), 1);
        x.nominate(0, 1);
        x.vote(0);
        x.vote(2);
        x.vote(3);
        x.close();
        Due.is("by day", x.seat(1, 'p'), 1);
        Due.is("as it is executed", "" + x.dusk() + x.state(), "1n");
        Due.is("not in the night", x.seat(1, 'p'), 0);
        NightfallCouncil y = Table.game("gd5e", "g-0ej", "e-0e", "g-0e", "g-0e");
        y.act(0, 1, 0);
        Table.pass(y);
        y.night();
        Due.is("not on the day after the next night", "" + y.seat(1, 'p') + Table.execute(y, 0, 1, 0, 2, 3)
                + y.state(), "01j");
        NightfallCouncil z = Table.deal(Table.roles("gd5e", "e-0e"), true, true, 0, 0, 0, 0, 0, 0, 0, 1);
        for (int seat = 0; seat < 7; seat++) {
            z.act(seat, (seat + 7) % 8, 0);
        }
        z.night();
        Due.is("the first and the last seat, too", Sight.row(z, 'p'), "[1, 1, 1, 1, 1, 1, 0, 1]");
        z.dusk();
        Due.is("all are sober again", Sight.row(z, 'p'), "[0, 0, 0, 0, 0, 0, 0, 0]");
    }

    private static void protects() {
        Doc.says("'p' protects the target in this night.");
        for (int order : new int[] {0, 5, 9}) {
            NightfallCouncil x = Table.game("ek5e", "gp" + order + "e", "g-0e", "g-0e", "g-0e");
            x.act(0, 2, 0);
            x.act(1, 2, 0);
            Due.is("at the order " + order, x.night(), 0);
            x.dusk();
            x.act(0, 2, 0);
            Due.is("not in the next night", x.night(), 1);
        }
        NightfallCouncil y = Table.game("ek5e", "gp5e", "g-0e", "g-0e");
        y.act(0, 1, 0);
        y.act(1, 1, 0);
        Due.is("oneself", y.night(), 0);
        y.dusk();
        y.act(0, 2, 0);
        y.act(1, 3, 0);
        Due.is("nobody but the target", "" + y.night() + y.seat(2, 'l'), "10");
    }

    private static void attacks() {
        Doc.says("'k' attacks it.");
        NightfallCouncil x = Table.game("ek5e", "g-0e", "g-0e", "g-0e", "g-0e");
        x.act(0, 4, 0);
        Due.is("the last seat", "" + x.night() + Sight.row(x, 'l'), "1[1, 1, 1, 1, 0]");
        x.dusk();
        x.act(0, 4, 0);
        Due.is("a dead one", "" + x.night() + x.living(), "04");
        x.dusk();
        x.act(0, 0, 0);
        Due.is("oneself", "" + x.night() + x.state(), "1g");
    }

    private static void turns() {
        Doc.says("'c' turns it.");
        NightfallCouncil x = Table.roles("gc5e", "e-0e", "g-0e", "gn6e");
        x.turnInto(0, 3);
        Table.deal(x, true, true, 0, 1, 2, 2, 2, 2);
        x.act(0, 5, 0);
        x.night();
        Due.is("the last seat, from the next night on", Sight.row(x, 'c') + x.tellings(), "[0, 1, 2, 2, 2, 3]0");
        x.dusk();
        x.act(0, 0, 0);
        x.night();
        Due.is("oneself", Sight.row(x, 'c') + x.tellings(), "[3, 1, 2, 2, 2, 3]1");
    }

    private static void bonds() {
        Doc.says("'h' bonds the target and the second one, if both are alive, for good, in place of bonds of both.");
        NightfallCouncil x = Table.deal(Table.roles("gh1e", "gh2e", "e-0e", "g-0e"), true, true, 0, 1, 2, 3, 3, 3, 3, 3);
        x.act(0, 3, 4);
        x.act(1, 5, 6);
        x.night();
        Due.is("two bonds", Sight.row(x, 'h'), "[-1, -1, -1, 4, 3, 6, 5, -1]");
        x.dusk();
        Due.is("for good", Sight.row(x, 'h'), "[-1, -1, -1, 4, 3, 6, 5, -1]");
        x.act(0, 4, 5);
        x.night();
        Due.is("in place of bonds of both", Sight.row(x, 'h'), "[-1, -1, -1, -1, 5, 4, -1, -1]");
        x.dusk();
        x.act(0, 7, 5);
        x.night();
        Due.is("in place of a bond of the second one", Sight.row(x, 'h'), "[-1, -1, -1, -1, -1, 7, -1, 5]");
        x.dusk();
        x.act(0, 7, 0);
        x.night();
        Due.is("in place of a bond of the target, with oneself", Sight.row(x, 'h'), "[7, -1, -1, -1, -1, -1, -1, 0]");
        x.dusk();
        x.act(1, 0, 7);
        x.night();
        Due.is("the same bond", Sight.row(x, 'h'), "[7, -1, -1, -1, -1, -1, -1, 0]");
        Due.is("only bonded ones die", "" + Table.execute(x, 0, 7, 0, 1, 2, 3) + Sight.row(x, 'l'),
                "7[0, 1, 1, 1, 1, 1, 1, 0]");
        Due.is("for good, for the dead too", Sight.row(x, 'h'), "[7, -1, -1, -1, -1, -1, -1, 0]");
    }

    private static void bondsOfTheLiving() {
        for (int mode = 0; mode < 4; mode++) {
            NightfallCouncil x = Table.game("gh1e", "gk5e", "gk5e", "g-0e", "g-0e", "e-0e", "g-0e", "g-0e");
            if ((mode & 1) == 1) {
                x.act(1, 3, 0);
            }
            if ((mode & 2) == 2) {
                x.act(2, 4, 0);
            }
            Table.pass(x);
            x.act(0, 3, 4);
            x.night();
            Due.is("if both are alive, mode " + mode, Sight.row(x, 'h'), mode == 0 ? "[-1, -1, -1, 4, 3, -1, -1, -1]"
                    : "[-1, -1, -1, -1, -1, -1, -1, -1]");
        }
        NightfallCouncil y = Table.game("gh1e", "gk5e", "g-0e", "g-0e", "g-0e", "e-0e", "g-0e", "g-0e");
        y.act(0, 2, 3);
        y.act(1, 4, 0);
        Table.pass(y);
        y.act(0, 2, 4);
        y.night();
        Due.is("a bond stays as nothing comes of another one", Sight.row(y, 'h'), "[-1, -1, 3, 2, -1, -1, -1, -1]");
    }

    private static void changes() {
        Doc.says("'w' changes the cards of both, and in what each believes is the new card then, a drunk one believing as "
                + "the other one had.");
        NightfallCouncil x = Table.game("ew1e", "g-0e", "g-0e", "g-0e", "gk1o");
        x.act(0, 1, 3);
        x.night();
        Due.is("cards of both", Sight.row(x, 'c') + Sight.row(x, 'b'), "[0, 3, 2, 1, 4][0, 3, 2, 1, 4]");
        x.dusk();
        x.act(0, 4, 0);
        x.night();
        Due.is("of oneself, and of the last seat", Sight.row(x, 'c') + Sight.row(x, 'b'),
                "[4, 3, 2, 1, 0][4, 3, 2, 1, 0]");
        x.dusk();
        x.act(0, 2, 0);
        x.night();
        x.dusk();
        x.act(4, 2, 3);
        x.night();
        Due.is("of a dead one, too", Sight.row(x, 'c') + Sight.row(x, 'l'), "[4, 3, 1, 2, 0][1, 1, 0, 1, 1]");
        NightfallCouncil y = Table.game("gw1e", "e-0e", "g-0e", "g-0e", "g-0e");
        y.act(0, 1, 2);
        y.night();
        Table.execute(y, 0, 2, 0, 1, 3);
        Due.is("the evil one is who has the card now", y.state(), 'g');
    }

    private static void changesOfDrunkCards() {
        int[] cards = {0, 1, 2, 3, 4, 5};
        int[] beliefs = {0, 1, 6, 3, 7, 5};
        NightfallCouncil x = Table.roles("ew1e", "g-0e", "g-0ed", "g-0e", "g-0ed", "g-0e", "g-0e", "g-0e");
        Table.dealDrunk(x, true, true, cards, beliefs);
        x.act(0, 1, 2);
        x.night();
        Due.is("a sober target and a drunk second", Sight.row(x, 'c') + Sight.row(x, 'b'),
                "[0, 2, 1, 3, 4, 5][0, 6, 1, 3, 7, 5]");
        x.dusk();
        x.act(0, 4, 1);
        x.night();
        Due.is("two drunk ones", Sight.row(x, 'c') + Sight.row(x, 'b'), "[0, 4, 1, 3, 2, 5][0, 7, 1, 3, 6, 5]");
        x.dusk();
        x.act(0, 4, 5);
        x.night();
        Due.is("a drunk target and a sober second", Sight.row(x, 'c') + Sight.row(x, 'b'),
                "[0, 4, 1, 3, 5, 2][0, 7, 1, 3, 5, 6]");
    }

    private static void toldSides() {
        Doc.says("'s' is told the side as which the card of the target registers, 0 good, 1 evil; 'l' its role as which "
                + "it registers; 'n' how many of the two living neighbours, the next living ones on both sides, "
                + "register as evil, the same one twice perhaps, 0 without another living seat.");
        NightfallCouncil x = Table.roles("gs5e", "e-0e", "g-0e", "e-0e", "g-0e");
        x.register(3, 'g', 3);
        x.register(4, 'e', 4);
        Table.deal(x, true, true, 0, 0, 0, 0, 1, 2, 3, 4);
        for (int seat = 0; seat < 4; seat++) {
            x.act(seat, 4 + seat, 0);
        }
        x.night();
        Due.is("as which the card registers", Sight.told(x, 'v'), "[1, 0, 0, 1]");
    }

    private static void toldRoles() {
        NightfallCouncil x = Table.roles("gl5e", "e-0e", "g-0e", "g-0e", "g-0e", "g-0e", "g-0e", "g-0e", "g-0e", "g-0e");
        x.register(2, 'g', 9);
        x.register(3, 'g', 0);
        Table.deal(x, true, true, 0, 0, 0, 0, 1, 2, 3, 9);
        for (int seat = 0; seat < 4; seat++) {
            x.act(seat, 4 + seat, 0);
        }
        x.night();
        Due.is("from the first to the last role", Sight.told(x, 'v'), "[1, 9, 0, 9]");
    }

    private static void toldNeighbours() {
        NightfallCouncil x = Table.roles("gn5e", "e-0e", "g-0e", "e-0e", "g-0e");
        x.register(3, 'g', 3);
        x.register(4, 'e', 4);
        Table.deal(x, true, true, 0, 1, 0, 4, 0, 2, 0, 3);
        x.night();
        Due.is("none, one or two register as evil, around the ring", Sight.told(x, 's') + Sight.told(x, 'v'),
                "[0, 2, 4, 6][1, 2, 1, 0]");
        NightfallCouncil y = Table.deal(Table.roles("gn5e", "e-0e", "g-0e"), true, true, 2, 0, 1);
        y.night();
        Due.is("in a ring of three", y.telling(0, 'v'), 1);
    }

    /**
     * A game goes on only with three living seats: no night has a seat that is next on both sides, nor one without
     * another living seat.
     */
    private static void nextLivingNeighbours() {
        String[] roles = {"gn1e", "gk5e", "g-0e", "e-0e"};
        Due.is("dead neighbours are left for the next ones",
                toldNext(Table.roles(roles), new int[] {2, 1, 2, 0, 2, 3, 2}, 4, 2, 1), "[0, 1, 1, 1]");
        Due.is("from the last seat around to the first ones",
                toldNext(Table.roles(roles), new int[] {2, 3, 1, 2, 2, 2, 0}, 0, 5), "[0, 1, 1]");
        Due.is("from the first seat around to the last ones",
                toldNext(Table.roles(roles), new int[] {0, 2, 1, 2, 2, 3, 2}, 6, 1), "[0, 1, 1]");
        Due.is("the two others of three living ones",
                toldNext(Table.roles(roles), new int[] {2, 0, 1, 2, 3}, 0, 2), "[0, 1, 1]");
    }

    /** What seat is told that has the card 0, as the one with the card 1 kills one a night. */
    private static String toldNext(NightfallCouncil x, int[] cards, int... targets) {
        Table.deal(x, true, true, cards);
        int killer = 0;
        while (killer < cards.length && cards[killer] != 1) {
            killer++;
        }
        for (int target : targets) {
            x.act(killer, target, 0);
            Table.pass(x);
        }
        x.night();
        return Sight.told(x, 'v');
    }

    private static void noEffect() {
        Doc.says("The act of a seat that has a drunk card or is poisoned as it is done has no effect; it is told what is "
                + "not so: the other side, the next role around, one more, 0 behind 2.");
        for (char act : "bxdpkchw".toCharArray()) {
            Due.is("a sober seat's " + act + " has an effect",
                    afterAct(act, false, false, true).equals(afterAct(act, false, false, false)), false);
            Due.is("the " + act + " of a drunk card", afterAct(act, true, false, true),
                    afterAct(act, true, false, false));
            Due.is("the " + act + " of a poisoned seat", afterAct(act, false, true, true),
                    afterAct(act, false, true, false));
        }
    }

    /** What is seen after a night in which seat 0 did an act, or told none. */
    private static String afterAct(char act, boolean isDrunk, boolean isPoisoned, boolean isTold) {
        NightfallCouncil x = Table.roles("g-0ed", "g" + act + "1e", "ek5e", "gs6e", "g-0e", "gd0e", "g-0e");
        x.turnInto(0, 6);
        x.turnInto(1, 6);
        int own = isDrunk ? 0 : 1;
        Table.dealDrunk(x, true, true, new int[] {own, 2, 3, 4, 4, 5, 4, 4}, new int[] {1, 2, 3, 4, 4, 5, 4, 4});
        x.act(1, 3, 0);
        x.act(2, 1, 0);
        if (isPoisoned) {
            x.act(5, 0, 0);
        }
        if (isTold) {
            boolean isOfKiller = act == 'b' || act == 'd';
            x.act(0, isOfKiller ? 1 : act == 'k' || act == 'c' || act == 'w' ? 4 : 3, act == 'w' ? 2 : 4);
        }
        x.night();
        return Sight.of(x);
    }

    private static void whatIsNotSo() {
        for (boolean isPoisoned : new boolean[] {false, true}) {
            for (int role = 2; role < 10; role++) {
                Due.is("the next role behind " + role, toldWrong('l', isPoisoned, role, 2), (role + 1) % 10);
            }
            Due.is("not good", toldWrong('s', isPoisoned, 3, 2), 1);
            Due.is("not evil", toldWrong('s', isPoisoned, 2, 3), 0);
            Due.is("one more than 0", toldWrong('n', isPoisoned, 3, 3), 1);
            Due.is("one more than 1, on the left", toldWrong('n', isPoisoned, 3, 2), 2);
            Due.is("one more than 1, on the right", toldWrong('n', isPoisoned, 2, 3), 2);
            Due.is("0 behind 2", toldWrong('n', isPoisoned, 2, 2), 0);
        }
        NightfallCouncil x = Table.roles("g-0ed", "el5e");
        Table.dealDrunk(x, true, true, new int[] {0, 0, 1, 0}, new int[] {1, 1, 1, 1});
        x.act(0, 0, 0);
        x.act(1, 2, 0);
        x.act(2, 0, 0);
        x.night();
        Due.is("the next one of two roles, and what is so", Sight.told(x, 'v') + Sight.told(x, 'f'),
                "[1, 0, 0][0, 0, 1]");
    }

    /** What seat 0 of five is told of seat 1, or of seats 1 and 4, which have these roles. */
    private static int toldWrong(char act, boolean isPoisoned, int first, int last) {
        NightfallCouncil x = Table.roles("g-0ed", "g" + act + "5e", "e-0e", "gd0e", "g-0e", "g-0e", "g-0e", "g-0e",
                "g-0e", "g-0e");
        Table.dealDrunk(x, true, true, new int[] {isPoisoned ? 1 : 0, first, 3, 4, last},
                new int[] {1, first, 3, 4, last});
        if (act != 'n') {
            x.act(0, 1, 0);
        }
        if (isPoisoned) {
            x.act(2, 0, 0);
        }
        x.night();
        Due.is("it was not sober", Sight.told(x, 'f'), "[0]");
        return x.telling(0, 'v');
    }

    private static void asItIsDone() {
        for (int order : new int[] {1, 9}) {
            NightfallCouncil x = Table.roles("g-0ed", "gk5e", "ew" + order + "e", "g-0e");
            Table.dealDrunk(x, true, true, new int[] {0, 1, 2, 3, 3, 3}, new int[] {1, 1, 2, 3, 3, 3});
            x.act(0, 3, 0);
            x.act(1, 4, 0);
            x.act(2, 0, 1);
            x.night();
            Due.is("who has the drunk card as the act is done, " + order, Sight.row(x, 'l'),
                    order == 1 ? "[1, 1, 1, 0, 1, 1]" : "[1, 1, 1, 1, 0, 1]");
        }
        for (int order : new int[] {1, 9}) {
            NightfallCouncil x = Table.game("gd" + order + "e", "gk5e", "e-0e", "g-0e", "g-0e");
            x.act(0, 1, 0);
            x.act(1, 3, 0);
            Due.is("who is poisoned as the act is done, " + order, x.night(), order == 1 ? 0 : 1);
        }
    }
}
