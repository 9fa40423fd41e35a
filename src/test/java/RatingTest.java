/** Promises 42, 44, 45 and 47: ratings, the sum, the share of the evil and soundness. */
public final class RatingTest {
    public static void main(String[] args) {
        promise42Rating();
        ratingsOfManyGames();
        ratingsOfPlayers();
        ratingsByCardsAtTheEnd();
        ratingsOfOneSide();
        promise44Checksum();
        promise45EvilShare();
        promise47IsSound();
        Due.end("RatingTest");
    }

    private static void promise42Rating() {
        NightfallCouncil x = new NightfallCouncil();
        Class<?> wrong = IllegalArgumentException.class;
        for (int player : new int[] {-1, 8, Integer.MIN_VALUE, Integer.MAX_VALUE}) {
            Due.fails("no player", x, wrong, () -> x.rating(player, 'g'));
        }
        for (char side : new char[] {'q', '-', 'E', 0, 'e' + 256, 65535}) {
            Due.fails("no side", x, wrong, () -> x.rating(0, side));
        }
        NightfallCouncil y = Table.game("ek5e", "g-0e", "g-0e", "g-0e");
        y.act(0, 3, 0);
        y.night();
        Due.is("as the game goes on", ratings(y, 'g') + ratings(y, 'e'), "1000 1000 1000 1000 1000 1000 1000 1000 "
                + "1000 1000 1000 1000 1000 1000 1000 1000 ");
        Table.execute(y, 1, 0, 1, 2);
        Due.is("the good, the dead too", ratings(y, 'g'), "1000 1016 1016 1016 1000 1000 1000 1000 ");
        Due.is("the evil", ratings(y, 'e'), "984 1000 1000 1000 1000 1000 1000 1000 ");
    }

    private static String ratings(NightfallCouncil x, char side) {
        StringBuilder text = new StringBuilder();
        for (int player = 0; player < 8; player++) {
            text.append(x.rating(player, side)).append(' ');
        }
        return text.toString();
    }

    /** 32 times what is won less what is due, by hundredths: the steps shrink as the ratings part. */
    private static void ratingsOfManyGames() {
        NightfallCouncil x = Table.roles("e-0e", "g-0e", "g-0e");
        for (int card = 0; card < 3; card++) {
            x.bag(card);
        }
        int evil = 1000;
        int good = 1000;
        for (int game = 0; game < 25; game++) {
            for (int card = 0; card < 3; card++) {
                x.list(card, card);
            }
            x.deal(false, false);
            x.night();
            Table.execute(x, 1, 0, 1, 2);
            x.gather();
            int dueOfGood = Math.min(90, 50 + (good - evil) / 8);
            int dueOfEvil = Math.max(10, 50 + (evil - good) / 8);
            good += 32 * (100 - dueOfGood) / 100;
            evil += 32 * (0 - dueOfEvil) / 100;
            Due.is("good after game " + game, Due.all(() -> x.rating(1, 'g'), () -> x.rating(2, 'g')).toString(),
                    "[" + good + ", " + good + "]");
            Due.is("evil after game " + game, x.rating(0, 'e'), evil);
        }
        Due.is("no more than 10 are due to the evil, and 90 to the good", good - evil >= 320, true);
        for (int card = 0; card < 3; card++) {
            x.list(card, card);
        }
        x.deal(false, false);
        x.night();
        Table.execute(x, 0, 1, 0, 2);
        Due.is("who is due 10 wins 28", x.rating(0, 'e'), evil + 28);
        Due.is("who is due 90 loses 28", x.rating(1, 'g'), good - 28);
    }

    private static void ratingsOfPlayers() {
        NightfallCouncil x = Table.game("ek5e", "g-0e", "g-0e");
        x.act(0, 1, 0);
        x.night();
        Due.is("evil has won", ratings(x, 'g') + ratings(x, 'e'), "1000 984 984 1000 1000 1000 1000 1000 "
                + "1016 1000 1000 1000 1000 1000 1000 1000 ");
        x.gather();
        for (int card = 0; card < 3; card++) {
            x.list(card, card);
        }
        x.deal(true, true);
        x.sit(0, 5);
        x.sit(2, 0);
        x.act(0, 1, 0);
        x.night();
        Due.is("of players, not of seats; the mean of the good is 992", ratings(x, 'g') + ratings(x, 'e'),
                "984 969 984 1000 1000 1000 1000 1000 1016 1000 1000 1000 1000 1015 1000 1000 ");
        x.sit(0, 6);
        Due.is("it changes nothing to sit down later", x.rating(6, 'e'), 1000);
    }

    private static void ratingsByCardsAtTheEnd() {
        NightfallCouncil x = Table.roles("ec5e", "g-0e", "g-0e");
        Table.deal(x, true, true, 0, 1, 2);
        x.act(0, 1, 0);
        x.night();
        Due.is("a turned one has won with the evil", ratings(x, 'g') + ratings(x, 'e'), "1000 1000 984 1000 1000 1000 "
                + "1000 1000 1016 1016 1000 1000 1000 1000 1000 1000 ");
    }

    private static void ratingsOfOneSide() {
        NightfallCouncil x = Table.roles("g-0e", "e-0e");
        for (int i = 0; i < 3; i++) {
            x.bag(0);
        }
        for (int game = 1; game <= 3; game++) {
            for (int i = 0; i < 3; i++) {
                x.list(0, 0);
            }
            x.deal(true, true);
            x.night();
            Due.is("50 is due without the other side", x.rating(0, 'g'), 1000 + 16 * game);
            x.gather();
        }
        x.empty();
        Table.deal(x, true, true, 1, 1, 1);
        x.night();
        Due.is("evil alone", x.rating(2, 'e'), 1016);
    }

    private static void promise44Checksum() {
        NightfallCouncil x = Table.game("ek5e", "gs6e", "g-0e");
        long sum = 7;
        for (int card = 0; card < 3; card++) {
            sum = 31 * sum + card + 20;
        }
        Due.is("at first", x.checksum(), sum);
        x.act(1, 0, 0);
        x.act(0, 2, 0);
        x.night();
        Due.is("with a dead seat and a telling", x.checksum(), 31 * (sum - 20) + 1);
        x.gather();
        Due.fails("without a game", x, IllegalStateException.class, x::checksum);
        NightfallCouncil y = Table.deal(Table.roles("gn5e", "e-0e"), false, false, 0, 0, 0, 0, 0, 0, 0, 1);
        sum = 7;
        for (int seat = 0; seat < 8; seat++) {
            sum = 31 * sum + (seat == 7 ? 1 : 0) + 20;
        }
        for (int night = 0; night < 3; night++) {
            y.night();
            y.dusk();
        }
        for (int telling = 0; telling < 21; telling++) {
            sum = 31 * sum + y.telling(telling, 'v');
        }
        Due.is("the sum goes around", y.checksum(), sum);
    }

    private static void promise45EvilShare() {
        NightfallCouncil x = Table.roles("ek5e", "g-0e", "gk5e");
        x.register(1, 'e', 0);
        Table.deal(x, true, true, 0, 1, 1, 2, 0, 1, 1);
        Due.is("two of seven, by their cards", x.evilShare(), 2f / 7f);
        x.act(0, 1, 0);
        x.night();
        Due.is("two of six", x.evilShare(), 2f / 6f);
        x.gather();
        Due.fails("without a game", x, IllegalStateException.class, x::evilShare);
        NightfallCouncil y = Table.game("ek5e", "gk5e", "gk5e");
        for (int seat = 0; seat < 3; seat++) {
            y.act(seat, seat, 0);
        }
        y.night();
        Due.fails("none are living", y, ArithmeticException.class, y::evilShare);
    }

    private static void promise47IsSound() {
        NightfallCouncil x = new NightfallCouncil();
        Due.is("without a game", x.isSound(), true);
        NightfallCouncil y = Table.roles("gx1e", "ed2o", "gl6e", "g-0ed", "gh1e", "gn7e", "gs6e");
        for (int role = 0; role < 6; role++) {
            y.bag(role);
        }
        for (int role = 0; role < 6; role++) {
            y.list(role, 2);
        }
        y.deal(true, false);
        for (int night = 0; night < 4 && y.state() == 'n'; night++) {
            y.act(0, 1, 2);
            y.act(1, 2, 0);
            y.act(2, 1, 0);
            y.act(3, 1, 0);
            y.act(4, 5 - night, 0);
            y.night();
            Due.is("after night " + night, y.isSound(), true);
            y.slip(y.tellings() - 1, 7);
            Due.is("with a slip", y.isSound(), true);
            y.mend();
            y.dusk();
        }
    }
}
