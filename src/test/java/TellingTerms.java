/** What 'Terms' says of tellings, and of slips of the moderator. */
final class TellingTerms {
    private static final Class<?> NONE = IndexOutOfBoundsException.class;
    private static final Class<?> RIGHT = java.util.NoSuchElementException.class;

    private TellingTerms() {
    }

    static void all() {
        atMostSixty();
        sixtyWithinANight();
        lostOnesTellNothing();
        whatATellingHas();
        soberAsItWasTold();
        unchangedTillThen();
        wrongNumbers();
        dueToThePoisoned();
        mended();
        voidFromTheFirst();
        voidInNightsAndDays();
    }

    private static void atMostSixty() {
        Doc.says("At most 60 are numbered from 0, further ones are lost: the night, the seat, the act, the target as it "
                + "was told, or the seat itself for 'n', the number, and whether the seat was sober, and no card was "
                + "changed or turned till then.");
        NightfallCouncil x = Table.deal(Table.roles("gn5e", "e-0e", "g-0e"), true, true, 0, 0, 0, 0, 0, 0, 1, 2);
        Due.fails("no telling 0 yet", x, NONE, () -> x.telling(0, 'v'));
        for (int night = 1; night <= 10; night++) {
            x.night();
            int last = 6 * night - 1;
            Due.is("tellings of the night " + night, x.tellings(), last + 1);
            Due.is("the last one", "" + x.telling(last, 'n') + x.telling(last, 's') + x.actOf(last), night + "5n");
            Due.fails("none behind it", x, NONE, () -> x.telling(last + 1, 'v'));
            x.dusk();
        }
        x.night();
        Due.is("all sixty, and no more", x.tellings(), 60);
        Due.is("the last one stays", "" + x.telling(59, 'n') + x.telling(59, 's'), "105");
        Due.fails("number 60 is none", x, NONE, () -> x.actOf(60));
        Due.fails("nor can it slip", x, NONE, () -> x.slip(60, 0));
        Due.is("number 59 can", x.slip(59, 9), 1);
    }

    private static void sixtyWithinANight() {
        NightfallCouncil x = Table.deal(Table.roles("gn5e", "e-0e"), true, true, 0, 0, 0, 0, 0, 0, 0, 1);
        for (int night = 1; night <= 8; night++) {
            Table.pass(x);
        }
        Due.is("56 of eight nights", x.tellings(), 56);
        Due.is("a night goes by as always", x.night(), 0);
        Due.is("four more, three are lost", x.tellings(), 60);
        Due.is("the first four of the night", "" + x.telling(56, 's') + x.telling(57, 's') + x.telling(58, 's')
                + x.telling(59, 's'), "0123");
        Due.is("the night and the sum", "" + x.telling(59, 'n') + x.nights(), "99");
    }

    private static void lostOnesTellNothing() {
        NightfallCouncil x = Table.deal(Table.roles("gn5e", "e-0e", "gs6e"), true, true, 0, 0, 0, 0, 0, 0, 1, 2);
        for (int night = 1; night <= 10; night++) {
            Table.pass(x);
        }
        Due.is("seven seats can be evil", x.worlds(7), 7);
        x.act(7, 6, 0);
        x.night();
        Due.is("what is lost was not told", "" + x.tellings() + "/" + x.worlds(7), "60/7");
        NightfallCouncil y = Table.deal(Table.roles("gn5e", "e-0e", "gs4e"), true, true, 0, 0, 0, 0, 0, 0, 1, 2);
        y.act(7, 6, 0);
        for (int night = 1; night <= 10; night++) {
            Table.pass(y);
        }
        Due.is("what is not lost was told", "" + y.tellings() + "/" + y.worlds(7), "60/1");
    }

    private static void whatATellingHas() {
        NightfallCouncil x = Table.game("gs5e", "gl6e", "gn7e", "e-0e", "gx0e", "g-0e", "g-0e", "g-0e");
        x.act(4, 3, 0);
        x.act(0, 3, 0);
        x.act(1, 0, 0);
        x.night();
        x.dusk();
        x.act(0, 3, 0);
        x.act(1, 7, 0);
        x.night();
        Due.is("the night", Sight.told(x, 'n'), "[1, 1, 1, 2, 2, 2]");
        Due.is("the seat", Sight.told(x, 's'), "[0, 1, 2, 0, 1, 2]");
        Due.is("the target as it was told, or the seat itself for 'n'", Sight.told(x, 't'), "[3, 0, 2, 3, 7, 2]");
        Due.is("the number", Sight.told(x, 'v'), "[0, 3, 1, 1, 7, 1]");
        StringBuilder acts = new StringBuilder();
        for (int telling = 0; telling < 6; telling++) {
            acts.append(x.actOf(telling));
        }
        Due.is("the act", acts.toString(), "slnsln");
    }

    private static void soberAsItWasTold() {
        NightfallCouncil x = Table.game("gs5e", "gl5e", "e-0e", "gd0e", "g-0e");
        x.act(0, 2, 0);
        x.act(1, 2, 0);
        x.act(3, 1, 0);
        x.night();
        Due.is("sober, and poisoned", Sight.told(x, 'f'), "[1, 0]");
        x.dusk();
        Due.is("as it was then", Sight.told(x, 'f'), "[1, 0]");
        NightfallCouncil y = Table.believed(new int[] {1, 1, 2, 3}, "g-0ed", "gs5e", "e-0e", "g-0e");
        y.act(0, 2, 0);
        y.act(1, 2, 0);
        y.night();
        Due.is("drunk, and sober", Sight.told(y, 'f'), "[0, 1]");
    }

    private static void unchangedTillThen() {
        NightfallCouncil x = Table.game("gs5e", "ew6e", "gs7e", "g-0e");
        x.act(0, 1, 0);
        x.act(1, 0, 3);
        x.act(2, 1, 0);
        x.night();
        Due.is("sober all the same", Sight.told(x, 'f'), "[1, 1]");
        Due.is("ahead of the change it counts, later not", "" + x.worlds(0) + "/" + x.worlds(2), "2/6");
        NightfallCouncil y = Table.roles("gs5e", "ec4e", "gs7e", "g-0e");
        y.turnInto(1, 0);
        Table.deal(y, true, true, 0, 1, 2, 3);
        y.act(0, 1, 0);
        y.act(1, 3, 0);
        y.night();
        Due.is("ahead of dawn no card is turned", y.worlds(0), 2);
        y.dusk();
        y.act(2, 1, 0);
        y.night();
        Due.is("in the next night one is", y.worlds(2), 6);
    }

    private static void wrongNumbers() {
        Doc.says("The moderator can tell another number than is due: a telling is wrong if its number is not as it is due "
                + "in truth, for who is sober what is so, for others what is not so, as the acts found it.");
        NightfallCouncil x = Table.game("gl5e", "e-0e", "g-0e");
        x.act(0, 1, 0);
        x.night();
        Due.fails("none is wrong at first", x, RIGHT, x::firstWrong);
        for (int number = 0; number <= 9; number++) {
            x.slip(0, number);
            Due.is("the number told", x.telling(0, 'v'), number);
            if (number == 1) {
                Due.fails("the number that is due is not wrong", x, RIGHT, x::firstWrong);
            } else {
                Due.is("another number is wrong", x.firstWrong(), 0);
            }
        }
        Due.fails("10 is no number", x, IllegalArgumentException.class, () -> x.slip(0, 10));
        Due.fails("-1 is no number", x, IllegalArgumentException.class, () -> x.slip(0, -1));
    }

    private static void dueToThePoisoned() {
        NightfallCouncil x = Table.game("gl5e", "e-0e", "g-0e", "gd0e", "gx1e");
        x.act(0, 1, 0);
        x.act(3, 0, 0);
        x.act(4, 1, 2);
        x.night();
        Due.is("seat 1 was 2 as the act found it, and that is not so", x.telling(0, 'v'), 3);
        for (int number = 0; number <= 9; number++) {
            x.slip(0, number);
            if (number == 3) {
                Due.fails("what is not so is due", x, RIGHT, x::firstWrong);
            } else {
                Due.is("all others are wrong, also what is so", x.firstWrong(), 0);
            }
        }
        x.dusk();
        Due.is("due is what was due then", x.mend(), 3);
    }

    private static void mended() {
        Doc.says("To mend it makes it so.");
        NightfallCouncil x = Table.game("gs5e", "gl5e", "gn5e", "e-0e", "g-0e");
        x.act(0, 3, 0);
        x.act(1, 4, 0);
        x.night();
        Due.fails("nothing to mend", x, RIGHT, x::mend);
        for (int telling = 2; telling >= 0; telling--) {
            x.slip(telling, 9);
            Due.is("the first wrong one", x.firstWrong(), telling);
        }
        Due.is("mended in their order", Due.all(x::mend, x::firstWrong, x::mend, x::firstWrong, x::mend).toString(),
                "[1, 1, 4, 2, 1]");
        Due.is("as they were", Sight.told(x, 'v'), "[1, 4, 1]");
        Due.fails("nothing more to mend", x, RIGHT, x::mend);
    }

    private static void voidFromTheFirst() {
        Doc.says("A night is void from the first wrong telling on: that night, and all later ones.");
        NightfallCouncil x = Table.game("gn5e", "e-0e", "g-0e");
        Due.is("no night went by", x.voidNights(), 0);
        for (int night = 1; night <= 4; night++) {
            x.night();
            Due.is("none is void", x.voidNights(), 0);
            x.dusk();
        }
        for (int telling = 3; telling >= 0; telling--) {
            x.slip(telling, 9);
            Due.is("from the night of the telling " + telling, x.voidNights(), 4 - telling);
        }
        for (int telling = 0; telling < 4; telling++) {
            x.mend();
            Due.is("as it is mended", x.voidNights(), 3 - telling);
        }
    }

    private static void voidInNightsAndDays() {
        NightfallCouncil x = Table.game("gn5e", "e-0e", "g-0e", "gk9e");
        x.night();
        x.slip(0, 9);
        Due.is("by day the night ahead of it", x.voidNights(), 1);
        x.dusk();
        Due.is("a night that has only begun does not count", x.voidNights(), 1);
        x.night();
        Due.is("as it went by it does", x.voidNights(), 2);
        x.dusk();
        x.act(3, 1, 0);
        x.night();
        Due.is("as the game is over at dawn", "" + x.state() + x.voidNights(), "g3");
        NightfallCouncil y = Table.game("gn5e", "e-0e", "g-0e", "gk9e");
        y.night();
        y.slip(0, 9);
        Table.execute(y, 0, 1, 0, 2);
        Due.is("as the game is over at dusk", "" + y.state() + y.voidNights(), "g1");
    }
}
