import java.util.function.Supplier;

/** Promises 12, 13, 25 to 27 and 38 to 41 at their bounds. */
final class NightPromises {
    private static final Class<?> STATE = IllegalStateException.class;
    private static final Class<?> INDEX = IndexOutOfBoundsException.class;
    private static final Class<?> WRONG = IllegalArgumentException.class;
    private static final Class<?> NOTHING = java.util.NoSuchElementException.class;
    private static final int[] NO_TELLINGS = {Integer.MIN_VALUE, -1, 60, 61, Integer.MAX_VALUE};

    private NightPromises() {
    }

    static void all() {
        act();
        inPlaceOfAnother();
        secondOfNoMeaning();
        secondOfNoEffect();
        night();
        tellings();
        telling();
        actOf();
        slip();
        firstWrong();
        voidNights();
        mend();
    }

    private static void act() {
        Doc.promise(12, "Tells an act for the night, in place of another one.", "Returns whether it was not told.");
        NightfallCouncil x = Table.deal(Table.roles("gs5e", "gs5e", "gs5e", "gs5e", "gs5e", "gs5e", "e-0e", "gs5e"), true,
                true, Table.upTo(8));
        for (int night = 0; night < 3; night++) {
            for (int seat : new int[] {0, 3, 7}) {
                Due.is("not told for this night", x.act(seat, 0, 0), true);
                Due.is("told", x.act(seat, 7, 0), false);
                Due.is("told again", x.act(seat, 7, 0), false);
            }
            x.night();
            Due.is("one act a seat", x.tellings(), 3 * night + 3);
            x.dusk();
        }
        x.act(0, 0, 0);
        x.gather();
        Table.list(x, true, true, Table.upTo(8), Table.upTo(8));
        Due.is("not told in a new game", x.act(0, 0, 0), true);
    }

    private static void inPlaceOfAnother() {
        NightfallCouncil x = Table.game("ek5e", "g-0e", "g-0e", "gx1e", "g-0e", "g-0e");
        x.act(0, 1, 0);
        x.act(0, 2, 0);
        x.act(3, 2, 1);
        x.act(3, 2, 4);
        x.night();
        Due.is("the last target and the last second one", Sight.row(x, 'l'), "[1, 1, 1, 1, 0, 1]");
        x.dusk();
        x.act(0, 1, 0);
        Due.fails("no target", x, INDEX, () -> x.act(0, 6, 0));
        x.night();
        Due.is("a refused one is in place of none", Sight.row(x, 'l'), "[1, 0, 1, 1, 0, 1]");
    }

    private static void secondOfNoMeaning() {
        Doc.promise(12, "`second`: the second one; of no meaning for other acts than x, h and w");
        for (char act : "bdpkcsl".toCharArray()) {
            NightfallCouncil x = Table.game("g" + act + "5e", "e-0e", "g-0e");
            for (int second : new int[] {Integer.MIN_VALUE, -1, 0, 1, 2, 3, 8, Integer.MAX_VALUE}) {
                Due.is("a second one for " + act, x.act(0, 1, second), second == Integer.MIN_VALUE);
            }
        }
        for (char act : "xhw".toCharArray()) {
            NightfallCouncil x = Table.game("g" + act + "5e", "e-0e", "g-0e");
            for (int second : new int[] {Integer.MIN_VALUE, -1, 3, 8, Integer.MAX_VALUE}) {
                Due.fails("no second one for " + act, x, INDEX, () -> x.act(0, 1, second));
            }
            Due.is("the first seat", x.act(0, 1, 0), true);
            Due.is("the last seat", x.act(0, 1, 2), false);
            Due.fails("the target", x, WRONG, () -> x.act(0, 1, 1));
        }
        for (char act : "-n".toCharArray()) {
            NightfallCouncil x = Table.game("g" + act + "5e", "e-0e", "g-0e");
            Due.fails("no target for " + act, x, NOTHING, () -> x.act(0, 1, 2));
            Due.fails("no meaning for " + act, x, NOTHING, () -> x.act(0, 1, 8));
        }
    }

    /** An act that met the second one, too, would bond, cross or protect it, or change its card. */
    private static void secondOfNoEffect() {
        for (char act : "bdpkcsl".toCharArray()) {
            String due = afterSecond(act, -1);
            for (int second = 0; second <= 8; second++) {
                Due.is("after " + act + " with the second one " + second, afterSecond(act, second), due);
            }
        }
        Due.is("who is poisoned is not protected", afterSecond('d', 2).contains("[1, 1, 0, 1, 1, 1]"), true);
    }

    /** What is seen after a night in which seats 0 and 1 did an act, and seat 2 was attacked, and told of. */
    private static String afterSecond(char act, int second) {
        NightfallCouncil x = Table.roles("g" + act + "5e", "ek9e", "g-0e", "gl9e", "g-0e");
        x.turnInto(0, 4);
        Table.deal(x, true, true, 0, 0, 2, 3, 1, 2);
        x.act(0, 2, second);
        x.act(1, 2, second);
        x.act(3, 2, 0);
        x.act(4, 2, 0);
        x.night();
        return Sight.row(x, 'l') + Sight.of(x);
    }

    private static void night() {
        Doc.promise(13, "Lets the night go by.", "Returns how many die.");
        for (int dead = 0; dead <= 8; dead++) {
            NightfallCouncil x = Table.deal(Table.roles("ek5e"), true, true, new int[8]);
            for (int seat = 0; seat < dead; seat++) {
                x.act(7 - seat, seat, 0);
            }
            Due.is("how many die", x.night(), dead);
            Due.is("all are evil", x.state(), dead == 8 ? 'g' : 'e');
            Due.fails("it went by", x, STATE, x::night);
        }
        NightfallCouncil y = Table.deal(Table.roles("gh0e", "ek5e", "gh1e", "gh2e", "g-0e"), true, true, 0, 1, 2, 3, 4, 4, 4, 4);
        y.act(0, 4, 5);
        y.act(2, 6, 7);
        y.act(3, 0, 2);
        y.act(1, 4, 0);
        Due.is("one and who is bonded to it, no others", "" + y.night() + Sight.row(y, 'l'), "2[1, 1, 1, 1, 0, 0, 1, 1]");
        y.dusk();
        y.act(1, 5, 0);
        Due.is("who was dead does not die", y.night(), 0);
    }

    private static NightfallCouncil sixty() {
        NightfallCouncil x = Table.deal(Table.roles("gn5e", "e-0e", "g-0e"), true, true, 0, 0, 0, 0, 0, 0, 1, 2);
        for (int night = 1; night <= 10; night++) {
            Table.pass(x);
        }
        return x;
    }

    private static void tellings() {
        Doc.promise(25, "Returns how many tellings there are.", "Returns how many.");
        NightfallCouncil x = Table.game("gs5e", "e-0e", "g-0e", "g-0e");
        Due.is("none at first", x.tellings(), 0);
        x.night();
        Due.is("none without a target", x.tellings(), 0);
        x.dusk();
        x.act(0, 1, 0);
        x.night();
        Due.is("one", x.tellings(), 1);
        NightfallCouncil y = sixty();
        Due.is("sixty", y.tellings(), 60);
        y.night();
        Due.is("no more", y.tellings(), 60);
        y.gather();
        Table.list(y, true, true, new int[] {0, 0, 0, 0, 0, 0, 1, 2}, new int[8]);
        Due.is("none in a new game", y.tellings(), 0);
        y.night();
        Due.is("six of its first night", y.tellings(), 6);
    }

    private static void telling() {
        Doc.promise(26, "Returns something of a telling.", "`what`: 'n' the night, 's' the seat, 't' the target, 'v' the "
                + "number, 'f' 1 if the seat was sober", "Returns the number.");
        NightfallCouncil x = Table.roles("gl5e", "g-0ed", "e-0e", "g-0e", "g-0e", "g-0e", "g-0e", "g-0e", "g-0e", "gs5e");
        Table.dealDrunk(x, true, true, new int[] {0, 1, 2, 3, 3, 3, 3, 9}, new int[] {0, 9, 2, 3, 3, 3, 3, 9});
        x.act(0, 7, 0);
        x.act(1, 2, 0);
        x.act(7, 2, 0);
        x.night();
        Due.is("the first and the last seat and role", Sight.told(x, 'n') + Sight.told(x, 's') + Sight.told(x, 't')
                + Sight.told(x, 'v') + Sight.told(x, 'f'), "[1, 1, 1][0, 1, 7][7, 2, 2][9, 0, 1][1, 0, 1]");
        Due.fails("no fourth one", x, INDEX, () -> x.telling(3, 'n'));
        NightfallCouncil y = sixty();
        Due.is("number 59", "" + y.telling(59, 'n') + " " + y.telling(59, 's') + y.telling(59, 't') + y.telling(59, 'v')
                + y.telling(59, 'f'), "10 5511");
        for (int telling : NO_TELLINGS) {
            Due.fails("no such telling", y, INDEX, () -> y.telling(telling, 'n'));
        }
        Supplier<NightfallCouncil> told = () -> {
            NightfallCouncil z = Table.game("gn5e", "e-0e", "g-0e");
            z.night();
            return z;
        };
        Due.is("things of a telling", Sight.taken(told, "telling"), "fnstv");
    }

    private static void actOf() {
        Doc.promise(27, "Returns the act of a telling.", "Returns the act.");
        NightfallCouncil x = sixty();
        Due.is("the first and the last one", "" + x.actOf(0) + x.actOf(59), "nn");
        for (int telling : NO_TELLINGS) {
            Due.fails("no such telling", x, INDEX, () -> x.actOf(telling));
        }
        for (char act : "-bxdpkchwsln".toCharArray()) {
            NightfallCouncil y = Table.game("g" + act + "5e", "e-0e", "g-0e", "g-0e", "g-0e", "g-0e");
            if (act != '-' && act != 'n') {
                y.act(0, 1, 2);
            }
            y.night();
            if ("sln".indexOf(act) >= 0) {
                Due.is("the act", "" + y.tellings() + y.actOf(0), "1" + act);
            } else {
                Due.is("nothing is told for " + act, y.tellings(), 0);
            }
        }
    }

    private static void slip() {
        Doc.promise(38, "Lets the moderator slip.", "`number`: the number told instead, 0 to 9", "Returns the number before.");
        NightfallCouncil x = sixty();
        for (int telling : new int[] {0, 59}) {
            int due = x.telling(telling, 'v');
            Due.is("numbers before", "" + x.slip(telling, 0) + x.slip(telling, 9) + x.slip(telling, 9) + x.slip(telling, due),
                    due + "099");
            for (int number : new int[] {Integer.MIN_VALUE, -1, 10, Integer.MAX_VALUE}) {
                Due.fails("no number", x, WRONG, () -> x.slip(telling, number));
            }
        }
        for (int telling : NO_TELLINGS) {
            Due.fails("no such telling", x, INDEX, () -> x.slip(telling, 0));
        }
        NightfallCouncil y = Table.game("gn5e", "e-0e", "g-0e");
        Due.fails("none yet", y, INDEX, () -> y.slip(0, 0));
        y.night();
        Due.is("one", y.slip(0, 0), 1);
        Due.fails("not two", y, INDEX, () -> y.slip(1, 0));
    }

    private static void firstWrong() {
        Doc.promise(39, "Returns the first wrong telling.", "Returns the telling.");
        NightfallCouncil x = sixty();
        Due.fails("none of sixty", x, NOTHING, x::firstWrong);
        for (int telling : new int[] {59, 58, 30, 1, 0}) {
            x.slip(telling, 9);
            Due.is("the first one of several", x.firstWrong(), telling);
        }
        x.slip(0, 1);
        Due.is("the first one is " + x.telling(0, 'v') + ", as it is not due", x.firstWrong(), 0);
        x.slip(0, 0);
        Due.is("the next one", x.firstWrong(), 1);
        NightfallCouncil y = Table.game("gn5e", "e-0e", "g-0e");
        Due.fails("none of none", y, NOTHING, y::firstWrong);
    }

    private static void voidNights() {
        Doc.promise(40, "Returns how many nights are void.", "Returns how many of those that went by.");
        NightfallCouncil x = sixty();
        Due.is("none", x.voidNights(), 0);
        for (int night = 10; night >= 1; night--) {
            x.slip(6 * night - 1, 9);
            Due.is("from the last telling of the night " + night, x.voidNights(), 11 - night);
            x.slip(6 * night - 6, 9);
            Due.is("from its first telling", x.voidNights(), 11 - night);
        }
        x.night();
        Due.is("a night of which all is lost went by, too", x.voidNights(), 11);
        x.dusk();
        Due.is("the next one has not gone by", x.voidNights(), 11);
    }

    private static void mend() {
        Doc.promise(41, "Mends the first wrong telling.", "Returns the number that is told now.");
        for (int role = 0; role < 10; role++) {
            NightfallCouncil x = Table.roles("gl5e", "e-0e", "g-0e", "g-0e", "g-0e", "g-0e", "g-0e", "g-0e", "g-0e", "g-0e");
            Table.deal(x, true, true, 0, role, 1, 2, 3);
            x.act(0, 1, 0);
            x.night();
            x.slip(0, 9 - role);
            Due.is("the number that is due", "" + x.mend() + x.telling(0, 'v'), "" + role + role);
            Due.fails("none is wrong", x, NOTHING, x::mend);
        }
        NightfallCouncil y = sixty();
        y.slip(59, 9);
        y.slip(0, 9);
        Due.is("the first one, then the last one", "" + y.mend() + y.firstWrong() + y.mend(), "0591");
        Due.fails("none is left", y, NOTHING, y::mend);
    }
}
