/** Promises 42, 44, 45 and 47 at their bounds. */
final class RatingPromises {
    private static final Class<?> WRONG = IllegalArgumentException.class;
    private static final Class<?> STATE = IllegalStateException.class;
    private static final Class<?> ARITHMETIC = ArithmeticException.class;

    private RatingPromises() {
    }

    static void all() {
        rating();
        checksum();
        aroundTheGreatestNumber();
        evilShare();
        isSound();
        soundInEachState();
    }

    private static void rating() {
        Doc.promise(42, "Returns a rating.", "`player`: the player, 0 to 7", "Returns the rating.");
        NightfallCouncil x = Table.deal(Table.roles("e-0e", "g-0e"), true, true, 0, 0, 0, 0, 1, 1, 1, 1);
        x.night();
        for (int player = 0; player < 8; player++) {
            int one = player;
            Due.is("the first and the last player", Due.all(() -> x.rating(one, 'e'), () -> x.rating(one, 'g')).toString(),
                    player < 4 ? "[1016, 1000]" : "[1000, 984]");
        }
        for (int player : new int[] {Integer.MIN_VALUE, -1, 8, Integer.MAX_VALUE}) {
            Due.fails("no player", x, WRONG, () -> x.rating(player, 'g'));
        }
        Due.is("sides", Sight.taken(NightfallCouncil::new, "rating"), "eg");
        x.gather();
        x.empty();
        Due.is("without a game", "" + x.rating(0, 'e') + x.rating(7, 'g'), "1016984");
    }

    private static void checksum() {
        Doc.promise(44, "Returns a sum over the game.", "Returns 7 at first, then for each seat 31 times itself plus its card, "
                + "plus 20 if alive, then for each telling 31 times itself plus its number.");
        NightfallCouncil x = Table.deal(Table.roles("g-0e"), true, true, 0, 0, 0);
        Due.is("three seats with the card 0", x.checksum(), ((7L * 31 + 20) * 31 + 20) * 31 + 20);
        NightfallCouncil y = Table.game("ek9e", "gs5e", "g-0e", "gn5e");
        y.act(0, 2, 0);
        y.act(1, 0, 0);
        Due.is("an act that is told changes nothing", y.checksum(), sum(20, 21, 22, 23));
        y.night();
        Due.is("a dead seat, and tellings", y.checksum(), sum(20, 21, 2, 23, 1, 1));
        y.slip(0, 9);
        Due.is("as the moderator slips", y.checksum(), sum(20, 21, 2, 23, 9, 1));
        y.dusk();
        Due.is("by night", y.checksum(), sum(20, 21, 2, 23, 9, 1));
        NightfallCouncil z = Table.game("ew5e", "g-0e", "g-0e");
        z.act(0, 0, 2);
        z.night();
        Due.is("changed cards", z.checksum(), sum(22, 21, 20));
        z.gather();
        Due.fails("no game", z, STATE, z::checksum);
    }

    private static long sum(int... parts) {
        long sum = 7;
        for (int part : parts) {
            sum = 31 * sum + part;
        }
        return sum;
    }

    private static void aroundTheGreatestNumber() {
        NightfallCouncil x = Table.deal(Table.roles("gn5e", "e-0e", "g-0e"), true, true, 0, 0, 0, 0, 0, 0, 1, 2);
        java.math.BigInteger due = java.math.BigInteger.valueOf(7);
        java.math.BigInteger times = java.math.BigInteger.valueOf(31);
        for (int part : new int[] {20, 20, 20, 20, 20, 20, 21, 22}) {
            due = due.multiply(times).add(java.math.BigInteger.valueOf(part));
        }
        for (int night = 0; night <= 10; night++) {
            for (int telling = 6 * night - 6; telling >= 0 && telling < 6 * night; telling++) {
                due = due.multiply(times).add(java.math.BigInteger.valueOf(x.telling(telling, 'v')));
            }
            Due.is("the sum goes around, after nights " + night, x.checksum(), due.longValue());
            Table.pass(x);
        }
        Due.is("it is beyond a long", due.bitLength() > 300, true);
        Due.is("what is lost is not in it", x.checksum(), due.longValue());
    }

    private static void evilShare() {
        Doc.promise(45, "Returns the share of the living seats that are evil by their cards.",
                "Returns their number divided by that of all living ones, both converted to float.");
        for (int seats = 3; seats <= 8; seats++) {
            for (int evil = 0; evil <= seats; evil++) {
                int[] cards = new int[seats];
                java.util.Arrays.fill(cards, 0, evil, 1);
                NightfallCouncil x = Table.roles("g-0e", "e-0e");
                x.register(0, 'e', 1);
                Table.deal(x, true, true, cards);
                Due.is(evil + " of " + seats, x.evilShare(), (float) evil / (float) seats);
            }
        }
        NightfallCouncil y = Table.game("ek1e", "gk1e", "gk1e", "gk1e");
        y.act(0, 3, 0);
        y.night();
        Due.is("one of three living ones", y.evilShare(), 1f / 3f);
        Due.is("not of doubles", (double) y.evilShare() == 1.0 / 3.0, false);
        y.dusk();
        for (int seat = 0; seat < 3; seat++) {
            y.act(seat, seat, 0);
        }
        y.night();
        Due.fails("none are living", y, ARITHMETIC, y::evilShare);
        Due.fails("none are living for worlds", y, ARITHMETIC, y::meanWorlds);
        y.gather();
        Due.fails("no game", y, STATE, y::evilShare);
    }

    private static void isSound() {
        Doc.promise(47, "Checks the council: as long as no telling is wrong, no card was changed or turned, and there are at "
                + "most 2000 ways, what was dealt is an open world, and a world of each seat; of two bonded seats each is "
                + "the bond of the other one, and both are alive, or both dead.", "Returns whether all of this holds.");
        NightfallCouncil x = Table.roles("ek7e", "gd1e", "gl6e", "g-0ed", "gh1e", "gx0e", "gs6e");
        Table.dealDrunk(x, true, true, new int[] {0, 1, 2, 3, 4, 5}, new int[] {0, 1, 2, 6, 4, 5});
        x.act(1, 2, 0);
        x.act(2, 4, 0);
        x.act(3, 0, 0);
        x.act(4, 1, 5);
        x.act(5, 4, 0);
        Due.is("as acts are told", x.isSound(), true);
        x.night();
        Due.is("two were told what is not so, as it was crossed", Sight.told(x, 'v') + Sight.told(x, 'f'), "[1, 1][0, 0]");
        Due.is("that is licensed", x.isSound(), true);
        x.slip(0, 9);
        Due.is("with a wrong telling", x.isSound(), true);
        x.mend();
        x.dusk();
        x.act(0, 5, 0);
        x.night();
        Due.is("bonded ones are both dead", "" + x.seat(1, 'l') + x.seat(5, 'l') + x.isSound(), "00true");
        Due.is("and one that is executed", "" + Table.execute(x, 0, 4, 0, 2) + x.isSound(), "4true");
        NightfallCouncil y = Table.game("e-0e", "gs5e", "gl6e", "g-0e");
        y.act(1, 0, 0);
        y.act(2, 3, 0);
        y.night();
        Due.is("the sober are told what is so", "" + y.worlds(1) + y.worlds(2) + y.isSound(), "22true");
        for (int telling = 1; telling >= 0; telling--) {
            y.slip(telling, 9);
            Due.is("a wrong telling that nothing licenses", "" + y.firstWrong() + y.worlds(telling + 1) + y.isSound(),
                    telling + "0true");
        }
    }

    private static void soundInEachState() {
        NightfallCouncil x = new NightfallCouncil();
        Due.is("a new one", x.isSound(), true);
        NightfallCouncil y = Table.game("ew5e", "gs6e", "gc5e", "g-0e");
        y.act(0, 1, 3);
        y.act(1, 0, 0);
        y.act(2, 3, 0);
        y.night();
        Due.is("with changed and turned cards", y.isSound(), true);
        y.gather();
        Due.is("without a game", y.isSound(), true);
        NightfallCouncil many = Table.game("ek5e", "gs6e", "gl6e", "g-0e", "g-0e", "g-0e", "g-0e");
        many.act(1, 0, 0);
        many.night();
        Due.is("with too many ways", "" + many.ways() + many.isSound(), "5040true");
    }
}
