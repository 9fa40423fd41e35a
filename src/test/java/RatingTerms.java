/** What 'Terms' says of ratings and of exceptions. */
final class RatingTerms {
    private RatingTerms() {
    }

    static void all() {
        eightPlayers();
        wonLessDue();
        anEighthOfTheDifference();
        dueAtLeastTen();
        dueAtMostNinety();
        meansAreCut();
        withoutTheOtherSide();
        atTheEnd();
        mayors();
        ratingsBefore();
        jesters();
        throwsAndChangesNothing();
        listedFirst();
    }

    private static void eightPlayers() {
        Doc.says("Each of 8 players has a rating for each side, 1000 at first.");
        NightfallCouncil x = new NightfallCouncil();
        for (int player = 0; player < 8; player++) {
            int one = player;
            Due.is("player " + player, Due.all(() -> x.rating(one, 'g'), () -> x.rating(one, 'e')).toString(),
                    "[1000, 1000]");
        }
        Due.fails("no ninth player", x, IllegalArgumentException.class, () -> x.rating(8, 'g'));
        Due.fails("no player -1", x, IllegalArgumentException.class, () -> x.rating(-1, 'e'));
    }

    /** A game of three that the evil seat 0 wins at dawn, or the good ones; these players sit. */
    private static void play(NightfallCouncil x, boolean isEvilWin, int... players) {
        x.gather();
        Table.list(x, true, true, new int[] {0, 1, 1}, new int[] {0, 1, 1});
        for (int seat = 0; seat < 3; seat++) {
            for (int other = seat + 1; other < 3; other++) {
                if (x.seat(other, 'w') == players[seat]) {
                    x.sit(other, free(x, players));
                }
            }
            x.sit(seat, players[seat]);
        }
        x.act(0, isEvilWin ? 1 : 0, 0);
        x.night();
        Due.is("who has won", x.state(), isEvilWin ? 'e' : 'g');
    }

    /** A player who neither sits now nor is to sit. */
    private static int free(NightfallCouncil x, int[] players) {
        for (int player = 7; player >= 0; player--) {
            int one = player;
            boolean isToSit = java.util.Arrays.stream(players).anyMatch(other -> other == one);
            boolean isSitting = java.util.stream.IntStream.range(0, 3).anyMatch(seat -> x.seat(seat, 'w') == one);
            if (!isToSit && !isSitting) {
                return player;
            }
        }
        throw new AssertionError("all players are needed");
    }

    private static NightfallCouncil players() {
        NightfallCouncil x = Table.roles("ek5e", "g-0e");
        x.bag(0);
        x.bag(1);
        x.bag(1);
        return x;
    }

    private static String ratings(NightfallCouncil x, char side, int... players) {
        StringBuilder text = new StringBuilder();
        for (int player : players) {
            text.append(text.isEmpty() ? "" : " ").append(x.rating(player, side));
        }
        return text.toString();
    }

    private static void wonLessDue() {
        Doc.says("As a game is won by 'g', 'm' or 'e', each seat's player gets 32 times what is won, 100 or 0, less what is "
                + "due, divided by 100, cut; due is 50 plus an 8th, cut toward 0, of the difference of the rating, of the "
                + "side of the seat's card at the end, and the mean, cut, of the other side's ratings of those with cards "
                + "of it, at least 10, at most 90; due is 50 if there are none of the other side.");
        NightfallCouncil x = players();
        play(x, true, 0, 1, 2);
        Due.is("evil gets 16", ratings(x, 'e', 0, 1, 2, 3), "1016 1000 1000 1000");
        Due.is("good loses 16", ratings(x, 'g', 0, 1, 2, 3), "1000 984 984 1000");
        NightfallCouncil y = players();
        play(y, false, 7, 3, 0);
        Due.is("evil loses 16", ratings(y, 'e', 0, 3, 7), "1000 1000 984");
        Due.is("good gets 16", ratings(y, 'g', 0, 3, 7), "1016 1016 1000");
        NightfallCouncil z = Table.game("e-0e", "g-0e", "g-0e", "g-0e");
        z.night();
        Table.execute(z, 1, 0, 1, 2);
        Due.is("by day", ratings(z, 'g', 1, 2, 3) + " " + ratings(z, 'e', 0), "1016 1016 1016 984");
        z.sit(0, 7);
        Due.is("once a game", ratings(z, 'g', 1, 2, 3) + " " + ratings(z, 'e', 0, 7), "1016 1016 1016 984 1000");
    }

    /** 32 * (100 - due) / 100 and 32 * -due / 100, cut toward 0: due 54 gives 14 and -17, due 46 gives 17 and -14. */
    private static void anEighthOfTheDifference() {
        NightfallCouncil x = players();
        play(x, true, 0, 1, 2);
        play(x, true, 0, 1, 2);
        Due.is("32 above, so 54 is due to evil: 14.72 is cut", ratings(x, 'e', 0), "1030");
        Due.is("32 below, so 46 is due to good: -14.72 is cut", ratings(x, 'g', 1, 2), "970 970");
        play(x, false, 0, 1, 2);
        Due.is("60 above, so 57 is due: -18.24 is cut", ratings(x, 'e', 0), "1012");
        Due.is("60 below, so 43 is due, an 8th of -60 is cut to -7: 18.24 is cut", ratings(x, 'g', 1, 2), "988 988");
        play(x, true, 0, 1, 3);
        Due.is("1012 and a mean of 994: 18, an 8th is cut to 2, 52 is due: 15.36", ratings(x, 'e', 0), "1027");
        Due.is("988 and 1012: -24, 47 is due: -15.04", ratings(x, 'g', 1), "973");
        Due.is("1000 and 1012: -12, an 8th is cut to -1, 49 is due: -15.68", ratings(x, 'g', 3), "985");
    }

    /** Wins of evil up to a difference of at least 320, so that an 8th of it is at least 40. */
    private static NightfallCouncil parted() {
        NightfallCouncil x = players();
        int evil = 1000;
        int good = 1000;
        for (int game = 0; evil - good < 320; game++) {
            int due = 50 + (evil - good) / 8;
            Due.is("less than 90 are due up to game " + game, due < 90, true);
            play(x, true, 0, 1, 2);
            evil += 32 * (100 - due) / 100;
            good += 32 * (due - 100) / 100;
            Due.is("after game " + game, ratings(x, 'e', 0) + " " + ratings(x, 'g', 1, 2), evil + " " + good + " " + good);
        }
        return x;
    }

    private static void dueAtMostNinety() {
        NightfallCouncil x = parted();
        int evil = x.rating(0, 'e');
        int good = x.rating(1, 'g');
        for (int game = 0; game < 20; game++) {
            play(x, true, 0, 1, 2);
            evil += 3;
            good -= 3;
            Due.is("90 are due to evil, 10 to good: 3 for each", ratings(x, 'e', 0) + " " + ratings(x, 'g', 1, 2),
                    evil + " " + good + " " + good);
        }
        Due.is("an 8th of the difference is more than 40", (evil - good) / 8 > 50, true);
    }

    private static void dueAtLeastTen() {
        NightfallCouncil x = parted();
        int evil = x.rating(0, 'e');
        int good = x.rating(1, 'g');
        play(x, false, 0, 1, 2);
        Due.is("10 are due to good, which gets 28; evil loses as many", ratings(x, 'e', 0) + " " + ratings(x, 'g', 1, 2),
                (evil - 28) + " " + (good + 28) + " " + (good + 28));
    }

    private static void meansAreCut() {
        NightfallCouncil x = Table.roles("ek5e", "g-0e");
        x.bag(0);
        x.bag(1);
        x.bag(1);
        play(x, true, 0, 1, 2);
        play(x, true, 3, 1, 4);
        Due.is("ratings that part", ratings(x, 'g', 1, 2, 4) + " " + ratings(x, 'e', 0, 3), "969 984 984 1016 1015");
        play(x, true, 5, 1, 2);
        Due.is("1000 and a mean of 976.5, cut to 976: 24, 53 is due: 15.04", ratings(x, 'e', 5), "1015");
        Due.is("969 and 1000: -31, 47 is due; 984 and 1000: -16, 48 is due", ratings(x, 'g', 1, 2), "954 969");
    }

    private static void withoutTheOtherSide() {
        NightfallCouncil x = Table.roles("g-0e", "e-0e");
        Table.deal(x, true, true, 0, 0, 0);
        x.night();
        Due.is("good alone", ratings(x, 'g', 0, 1, 2, 3), "1016 1016 1016 1000");
        x.gather();
        Table.list(x, true, true, new int[3], new int[3]);
        x.night();
        Due.is("50 is due whatever the rating", ratings(x, 'g', 0, 1, 2, 3), "1032 1032 1032 1000");
        x.gather();
        x.empty();
        Table.deal(x, true, true, 1, 1, 1);
        x.night();
        Due.is("evil alone", "" + x.state() + ratings(x, 'e', 0, 1, 2, 3), "e1016 1016 1016 1000");
        NightfallCouncil y = Table.game("ek5e", "g-0e", "g-0e");
        y.act(0, 0, 0);
        y.night();
        Due.is("the dead are of the other side, too", ratings(y, 'e', 0) + " " + ratings(y, 'g', 1, 2), "984 1016 1016");
    }

    private static void atTheEnd() {
        NightfallCouncil x = Table.roles("ec5e", "g-0e", "g-0e");
        Table.deal(x, true, true, 0, 1, 2, 2);
        x.act(0, 1, 0);
        x.night();
        Due.is("turned to evil, so won with evil", "" + x.state() + ratings(x, 'e', 0, 1, 2, 3) + " "
                + ratings(x, 'g', 0, 1, 2, 3), "e1016 1016 1000 1000 1000 1000 984 984");
        NightfallCouncil y = Table.game("ew5e", "g-0e", "g-0e", "g-0e");
        y.act(0, 0, 1);
        y.night();
        y.sit(0, 6);
        Table.execute(y, 0, 1, 0, 2);
        Due.is("changed cards, and who sits at the end", "" + y.state() + ratings(y, 'e', 0, 1) + " "
                + ratings(y, 'g', 0, 1, 2, 3, 6), "g1000 984 1000 1000 1016 1016 1016");
    }

    private static void mayors() {
        Doc.says("Mayors win for the good.");
        NightfallCouncil x = Table.game("e-0em", "g-0e", "g-0e");
        x.night();
        x.dusk();
        Due.is("also an evil mayor", "" + x.state() + ratings(x, 'e', 0) + " " + ratings(x, 'g', 1, 2), "m984 1016 1016");
    }

    private static void ratingsBefore() {
        Doc.says("All of this is by the ratings before.");
        NightfallCouncil x = Table.roles("e-0e", "g-0e", "gk5e");
        Table.deal(x, true, true, 0, 0, 0, 1, 1, 1, 2, 1);
        x.act(6, 7, 0);
        x.night();
        x.dusk();
        x.act(6, 5, 0);
        x.night();
        Due.is("eight players, each by 1000 and a mean of 1000", "" + x.state() + ratings(x, 'e', 0, 1, 2) + " "
                + ratings(x, 'g', 3, 4, 5, 6, 7), "e1016 1016 1016 984 984 984 984 984");
    }

    private static void jesters() {
        Doc.says("A jester's win changes none.");
        for (String jester : new String[] {"g-0ej", "e-0ej"}) {
            NightfallCouncil x = Table.game(jester, "e-0e", "g-0e", "g-0e", "g-0e", "g-0e");
            x.night();
            Table.execute(x, 0, 0, 0, 1, 2);
            Due.is("all stay", "" + x.state() + ratings(x, 'g', 0, 1, 2, 3, 4, 5) + " " + ratings(x, 'e', 0, 1, 2, 3, 4, 5),
                    "j1000 1000 1000 1000 1000 1000 1000 1000 1000 1000 1000 1000");
        }
    }

    /** RefusedTest looks at all of them. */
    private static void throwsAndChangesNothing() {
        Doc.says("A method that throws an exception changes nothing.");
        NightfallCouncil x = Table.game("ek5e", "g-0e", "g-0e", "g-0e");
        x.night();
        x.nominate(0, 1);
        x.vote(0);
        x.vote(2);
        Due.fails("who has nominated", x, java.util.NoSuchElementException.class, () -> x.nominate(0, 2));
        Due.is("the nomination is still open", x.vote(3), 3);
    }

    private static void listedFirst() {
        Doc.says("If several conditions of a method apply, the exception that is listed first is thrown.");
        NightfallCouncil x = Table.game("ek5e", "gx5e", "g-0e");
        Due.fails("no target, and the second one is the target", x, IndexOutOfBoundsException.class,
                () -> x.act(1, 3, 3));
        x.night();
        Due.fails("it is day, and no such seat", x, UnsupportedOperationException.class, () -> x.act(3, 3, 3));
        Table.execute(x, 0, 0, 1, 2);
        Due.fails("no game goes on, and it is not night", x, IllegalStateException.class, () -> x.act(3, 3, 3));
    }
}
