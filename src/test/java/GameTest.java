/** Promises 8, 9, 11 and 21 to 24: games, seats and players. */
public final class GameTest {
    private static final Class<?> NO_GAME = IllegalStateException.class;

    public static void main(String[] args) {
        promise8Deal();
        promise9Gather();
        promise11Sit();
        promise21State();
        promise22Nights();
        promise23Seat();
        promise24Living();
        withoutGame();
        Due.end("GameTest");
    }

    private static void promise8Deal() {
        NightfallCouncil x = Table.roles("gs5e", "e-0e", "g-0ed");
        Class<?> refused = UnsupportedOperationException.class;
        Due.fails("deal an empty bag", x, refused, () -> x.deal(true, true));
        x.bag(0);
        x.bag(1);
        x.list(0, 0);
        x.list(1, 1);
        Due.fails("deal two", x, refused, () -> x.deal(true, true));
        x.bag(2);
        Due.fails("deal what is not listed", x, refused, () -> x.deal(true, true));
        x.list(2, 0);
        Due.is("deal three", x.deal(true, true), 3);
        Due.fails("deal in a game", x, NO_GAME, () -> x.deal(true, true));
        Due.is("a game begins with a night", x.state(), 'n');
        Due.is("it is the night 1", x.nights(), 1);
        int[] believed = {0, 1, 0};
        for (int seat = 0; seat < 3; seat++) {
            int who = seat;
            int belief = believed[seat];
            Due.is("seat " + seat, Due.all(() -> x.seat(who, 'c'), () -> x.seat(who, 'b'), () -> x.seat(who, 'l'),
                    () -> x.seat(who, 'p'), () -> x.seat(who, 'g'), () -> x.seat(who, 'h'), () -> x.seat(who, 'w'))
                    .toString(), "[" + seat + ", " + belief + ", 1, 0, 1, -1, " + seat + "]");
        }
        Due.is("no tellings at first", x.tellings(), 0);
        NightfallCouncil y = Table.deal(Table.roles("gs5e", "e-0e"), false, false, 0, 1, 0, 1, 0, 1, 0, 0);
        Due.is("eight seats", Sight.seats(y), 8);
        Due.is("all of them alive", y.living(), 8);
        dealAnew();
        shownOrNot();
    }

    /** Nothing of a game before is left in a new one. */
    private static void dealAnew() {
        NightfallCouncil x = Table.game("ed0o", "gs5e", "gh1o", "g-0ev", "ew6o", "gk7e", "g-0e");
        String atFirst = Sight.of(x);
        x.sit(0, 7);
        x.act(0, 1, 0);
        x.act(1, 0, 0);
        x.act(2, 3, 4);
        x.act(5, 6, 0);
        x.act(4, 0, 1);
        x.night();
        x.claimSide(0, 1, 'e');
        x.veto(3);
        x.dusk();
        x.act(1, 2, 0);
        x.gather();
        for (int card = 0; card < 7; card++) {
            x.list(card, card);
        }
        x.deal(true, false);
        Due.is("a game dealt anew", Sight.of(x), atFirst);
        Due.is("nothing is told for the night", x.act(1, 0, 0), true);
        x.act(0, 1, 0);
        x.act(2, 3, 4);
        x.night();
        Due.is("an act of once in a game is done anew", x.seat(1, 'p'), 1);
        Due.is("and a bond", x.seat(3, 'h'), 4);
        Due.is("a veto anew", x.veto(3), false);
        Due.is("claims are counted anew", x.claimSide(0, 1, 'e'), 1);
    }

    private static void shownOrNot() {
        for (boolean areShown : new boolean[] {true, false}) {
            NightfallCouncil x = Table.deal(Table.roles("ek5e", "g-0e"), areShown, false, 0, 1, 1, 1);
            x.act(0, 1, 0);
            x.night();
            Due.is("open worlds with a dead seat", x.openWorlds(), areShown ? 3 : 4);
        }
        for (boolean isTwo : new boolean[] {true, false}) {
            NightfallCouncil x = Table.deal(Table.roles("ek5e", "g-0e"), true, isTwo, 0, 1, 1, 1);
            x.act(0, 1, 0);
            x.night();
            Due.is("three are living", x.state(), 'd');
            x.dusk();
            x.act(0, 0, 0);
            x.night();
            Due.is("only good ones are living", x.state(), 'g');
        }
    }

    private static void promise9Gather() {
        NightfallCouncil x = Table.game("gs5e", "e-0e", "g-0e");
        Due.is("gather a game", x.gather(), true);
        Due.is("there is none", x.state(), '-');
        Due.is("gather none", x.gather(), false);
        Due.is("roles stay", x.roles(), 3);
        Due.is("the bag stays", x.ways(), 6L);
        Due.fails("the list is empty", x, UnsupportedOperationException.class, () -> x.deal(true, true));
        Due.is("list the first one", x.list(0, 0), 1);
        Due.is("gather without a game", x.gather(), false);
        Due.is("the list is empty then, too", x.list(0, 0), 1);
        NightfallCouncil y = Table.game("ek5e", "g-0e", "g-0e");
        y.act(0, 1, 0);
        y.night();
        Due.is("evil has won", y.state(), 'e');
        Due.is("gather a game that is over", y.gather(), true);
        Due.is("ratings stay", Due.all(() -> y.rating(0, 'e'), () -> y.rating(1, 'g')).toString(), "[1016, 984]");
    }

    private static void promise11Sit() {
        NightfallCouncil x = Table.game("gs5e", "e-0e", "g-0e", "gk5e");
        for (int seat : new int[] {-1, 4, Integer.MIN_VALUE, Integer.MAX_VALUE}) {
            Due.fails("sit on no seat", x, IndexOutOfBoundsException.class, () -> x.sit(seat, 5));
            Due.fails("sit on no seat as no player", x, IndexOutOfBoundsException.class, () -> x.sit(seat, 8));
        }
        for (int player : new int[] {-1, 8, Integer.MIN_VALUE, Integer.MAX_VALUE}) {
            Due.fails("no player", x, IllegalArgumentException.class, () -> x.sit(0, player));
        }
        Due.fails("sits on another seat", x, IllegalArgumentException.class, () -> x.sit(0, 3));
        Due.is("sits there", x.sit(0, 0), 0);
        Due.is("a player of no seat", x.sit(0, 7), 0);
        Due.is("who left can sit", x.sit(3, 0), 3);
        Due.is("who sits", Due.all(() -> x.seat(0, 'w'), () -> x.seat(1, 'w'), () -> x.seat(3, 'w')).toString(),
                "[7, 1, 0]");
        x.act(3, 1, 0);
        x.night();
        Due.is("the good have won", x.state(), 'g');
        Due.is("sit as the game is over", x.sit(1, 4), 1);
        x.gather();
        Due.fails("sit without a game", x, NO_GAME, () -> x.sit(-1, 9));
    }

    private static void promise21State() {
        NightfallCouncil x = Table.roles("ek5e", "g-0e", "g-0ej", "g-0em");
        Due.is("no game", x.state(), '-');
        Table.deal(x, true, false, 0, 1, 2, 3);
        Due.is("night", x.state(), 'n');
        x.night();
        Due.is("day", x.state(), 'd');
        x.dusk();
        Due.is("night again", x.state(), 'n');
        x.night();
        Table.execute(x, 0, 2, 0, 1);
        Due.is("the jester has won", x.state(), 'j');
        x.gather();
        Due.is("no game any more", x.state(), '-');
    }

    private static void promise22Nights() {
        NightfallCouncil x = Table.game("gs5e", "e-0e", "g-0e");
        for (int night = 1; night < 5; night++) {
            Due.is("the night", x.nights(), night);
            x.night();
            Due.is("the night ahead of the day", x.nights(), night);
            x.dusk();
        }
        x.night();
        Table.execute(x, 0, 1, 0, 2);
        Due.is("the good have won", x.state(), 'g');
        Due.is("no night begins as the game is over", x.nights(), 5);
        x.gather();
        Due.fails("nights without a game", x, NO_GAME, x::nights);
    }

    private static void promise23Seat() {
        NightfallCouncil x = Table.game("ed1e", "gh2e", "gk3e", "g-0e", "g-0e", "g-0e");
        for (int seat : new int[] {-1, 6, 8, Integer.MIN_VALUE, Integer.MAX_VALUE}) {
            Due.fails("no seat", x, IndexOutOfBoundsException.class, () -> x.seat(seat, 'c'));
            Due.fails("nothing of no seat", x, IndexOutOfBoundsException.class, () -> x.seat(seat, 'q'));
        }
        for (char what : new char[] {'q', 'a', '-', 0, 'c' + 256, 65535}) {
            Due.fails("nothing of a seat", x, IllegalArgumentException.class, () -> x.seat(0, what));
        }
        x.act(0, 4, 0);
        x.act(1, 3, 5);
        x.act(2, 4, 0);
        x.night();
        Due.is("poisoned and dead", Due.all(() -> x.seat(4, 'l'), () -> x.seat(4, 'p'), () -> x.seat(4, 'g'))
                .toString(), "[0, 1, 1]");
        Due.is("bonds", Due.all(() -> x.seat(3, 'h'), () -> x.seat(5, 'h'), () -> x.seat(1, 'h')).toString(),
                "[5, 3, -1]");
        x.nominate(0, 3);
        x.vote(4);
        Due.is("the ghost vote is gone", x.seat(4, 'g'), 0);
        x.vote(0);
        Due.is("the living keep theirs", x.seat(0, 'g'), 1);
        x.dusk();
        Due.is("poison ends as the next night begins", x.seat(4, 'p'), 0);
        x.gather();
        Due.fails("a seat without a game", x, NO_GAME, () -> x.seat(0, 'c'));
        Due.fails("no seat without a game", x, NO_GAME, () -> x.seat(-1, 'q'));
    }

    private static void promise24Living() {
        NightfallCouncil x = Table.game("ek5e", "g-0e", "g-0e", "g-0e", "g-0e");
        Due.is("all are living", x.living(), 5);
        x.act(0, 1, 0);
        x.night();
        Due.is("four are living", x.living(), 4);
        Due.is("three are executed", Table.execute(x, 0, 2, 0, 3, 4), 2);
        Due.is("three are living", x.living(), 3);
        x.act(0, 3, 0);
        x.night();
        Due.is("two are living at the end", x.living(), 2);
        x.gather();
        Due.fails("living without a game", x, NO_GAME, x::living);
    }

    /** Every call that needs a game, with arguments that are wrong, too. */
    private static void withoutGame() {
        NightfallCouncil x = Table.roles("gs5e", "e-0e", "g-0e", "gs6e", "gs7e", "gk5e", "gn5e", "gl5e");
        for (int role = 0; role < 8; role++) {
            x.bag(role);
        }
        Due.is("ways are too many as well", x.ways(), 40320L);
        Due.fails("act", x, NO_GAME, () -> x.act(-1, 9, 9));
        Due.fails("night", x, NO_GAME, x::night);
        Due.fails("nominate", x, NO_GAME, () -> x.nominate(-1, 9));
        Due.fails("vote", x, NO_GAME, () -> x.vote(-1));
        Due.fails("close", x, NO_GAME, x::close);
        Due.fails("veto", x, NO_GAME, () -> x.veto(-1));
        Due.fails("dusk", x, NO_GAME, x::dusk);
        Due.fails("claimRole", x, NO_GAME, () -> x.claimRole(-1, 9, 9));
        Due.fails("claimSide", x, NO_GAME, () -> x.claimSide(-1, 9, 'q'));
        Due.fails("tellings", x, NO_GAME, x::tellings);
        Due.fails("telling", x, NO_GAME, () -> x.telling(-1, 'q'));
        Due.fails("actOf", x, NO_GAME, () -> x.actOf(-1));
        Due.fails("openWorlds", x, NO_GAME, x::openWorlds);
        Due.fails("worlds", x, NO_GAME, () -> x.worlds(-1));
        Due.fails("chanceOf", x, NO_GAME, () -> x.chanceOf(-1, 9, 9));
        Due.fails("evilChance", x, NO_GAME, () -> x.evilChance(-1, 9));
        Due.fails("knows", x, NO_GAME, () -> x.knows(-1, 9));
        Due.fails("bestVote", x, NO_GAME, () -> x.bestVote(-1));
        Due.fails("leastLiars", x, NO_GAME, x::leastLiars);
        Due.fails("claimed", x, NO_GAME, () -> x.claimed(-1));
        Due.fails("bluff", x, NO_GAME, () -> x.bluff(-1));
        Due.fails("slip", x, NO_GAME, () -> x.slip(-1, -1));
        Due.fails("firstWrong", x, NO_GAME, x::firstWrong);
        Due.fails("voidNights", x, NO_GAME, x::voidNights);
        Due.fails("mend", x, NO_GAME, x::mend);
        Due.fails("checksum", x, NO_GAME, x::checksum);
        Due.fails("evilShare", x, NO_GAME, x::evilShare);
        Due.fails("meanWorlds", x, NO_GAME, x::meanWorlds);
    }
}
