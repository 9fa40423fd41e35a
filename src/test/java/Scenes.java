import java.util.ArrayList;
import java.util.List;
import java.util.function.Consumer;

/** The points of games at which RefusedTest looks at what is refused. */
final class Scenes {
    private static final String[] SIX = {"ek5e", "gs6e", "g-0ed", "gx1e", "g-0ev", "gn7e"};
    private static final String[] TEN = {"ek5e", "gs6e", "g-0ed", "gw1o", "g-0ev", "gn7e", "gh2e", "gl5e", "gp3e", "ec4e"};
    private static final String[] FIVE = {"ek9e", "gs1e", "gk2e", "g-0em", "g-0ev"};
    private static final int[] SIX_CARDS = {0, 1, 2, 3, 4, 5};
    private static final int[] SIX_BELIEFS = {0, 1, 1, 3, 4, 5};
    private static final int[] EIGHT_CARDS = {0, 1, 2, 3, 4, 5, 6, 7};
    private static final int[] EIGHT_BELIEFS = {0, 1, 3, 3, 4, 5, 6, 7};
    private static final int[] FIVE_CARDS = {0, 1, 2, 3, 4};

    private static final int[] LIARS = {0, 1, 2, 4, 5};

    private Scenes() {
    }

    static List<Scene> all() {
        List<Scene> all = new ArrayList<>();
        withoutGame(all);
        nights(all);
        days(all);
        over(all);
        nobodyLives(all);
        return all;
    }

    private static void withoutGame(List<Scene> all) {
        all.add(new Scene("a new council", NightfallCouncil::new));
        all.add(new Scene("roles alone", () -> Table.roles(SIX), SIX));
        all.add(new Scene("two in the bag, both listed", () -> bagged(Table.roles(SIX), new int[] {0, 1}, 0, 1), SIX)
                .bag(0, 1).listed(0, 1));
        all.add(new Scene("three in the bag, two listed", () -> bagged(Table.roles(SIX), new int[] {0, 1, 1}, 0, 1), SIX)
                .bag(0, 1, 1).listed(0, 1));
        all.add(new Scene("six in the bag, all listed", () -> bagged(Table.roles(SIX), SIX_CARDS, SIX_CARDS), SIX)
                .bag(SIX_CARDS).listed(SIX_CARDS));
        all.add(new Scene("ten roles, eight in the bag, four listed",
                () -> bagged(Table.roles(TEN), EIGHT_CARDS, 2, 4, 6, 7), TEN).bag(EIGHT_CARDS).listed(2, 4, 6, 7));
        all.add(new Scene("a gathered game", () -> {
            NightfallCouncil x = six(y -> y.night());
            x.gather();
            return x;
        }, SIX).bag(SIX_CARDS));
    }

    /** Drunk ones are listed as believing in the role 1. */
    private static NightfallCouncil bagged(NightfallCouncil x, int[] cards, int... listed) {
        for (int card : cards) {
            x.bag(card);
        }
        for (int card : listed) {
            x.list(card, 1);
        }
        return x;
    }

    private static NightfallCouncil six(Consumer<NightfallCouncil> calls) {
        NightfallCouncil x = Table.dealDrunk(Table.roles(SIX), true, true, SIX_CARDS, SIX_BELIEFS);
        calls.accept(x);
        return x;
    }

    private static Scene ofSix(String name, Consumer<NightfallCouncil> calls) {
        return new Scene(name, () -> six(calls), SIX).bag(SIX_CARDS).listed(SIX_CARDS);
    }

    private static Scene ofFive(String name, Consumer<NightfallCouncil> calls) {
        return new Scene(name, () -> {
            NightfallCouncil x = Table.deal(Table.roles(FIVE), true, true, FIVE_CARDS);
            calls.accept(x);
            return x;
        }, FIVE).bag(FIVE_CARDS).listed(FIVE_CARDS);
    }

    private static Scene ofEight(String name, Consumer<NightfallCouncil> calls) {
        return new Scene(name, () -> {
            NightfallCouncil x = Table.dealDrunk(Table.roles(TEN), true, true, EIGHT_CARDS, EIGHT_BELIEFS);
            calls.accept(x);
            return x;
        }, TEN).bag(EIGHT_CARDS).listed(EIGHT_CARDS);
    }

    private static void nights(List<Scene> all) {
        all.add(ofSix("the first night", x -> { }));
        all.add(ofSix("a night with acts that were told", x -> {
            x.act(0, 1, 0);
            x.act(2, 0, 0);
            x.act(3, 1, 4);
        }));
        all.add(ofEight("a night with too many ways", x -> {
            x.act(3, 0, 1);
            x.act(6, 1, 2);
        }));
        all.add(ofSix("a night with a dead seat and a wrong telling", x -> {
            x.act(0, 3, 0);
            x.act(1, 0, 0);
            x.night();
            x.slip(0, 0);
            x.dusk();
            x.sit(0, 6);
        }).wrong());
        all.add(ofSix("a night with 40 claims", Scenes::claimAll).claims(40).bluffless(LIARS));
        all.add(ofEight("a night of bonds and changed cards", x -> {
            x.act(3, 6, 7);
            x.act(6, 0, 1);
            x.act(0, 5, 0);
            Table.pass(x);
        }));
        all.add(ofFive("a night with no world for a seat, as the moderator has slipped", x -> {
            x.act(1, 0, 0);
            Table.pass(x);
            x.slip(0, 2);
        }).wrong().worldless(1));
    }

    /** What all seats but 3 claim of others cannot all be so. */
    private static void claimAll(NightfallCouncil x) {
        for (int claim = 0; claim < 20; claim++) {
            x.claimRole(claim % 6, claim % 5, claim % 4);
            x.claimSide(claim % 5, claim % 6, claim % 2 == 0 ? 'g' : 'e');
        }
    }

    private static void days(List<Scene> all) {
        all.add(ofSix("a day", x -> x.night()));
        all.add(ofSix("a day with an open nomination and a dead one's vote", x -> {
            x.act(0, 5, 0);
            x.night();
            x.nominate(0, 5);
            x.nominate(1, 0);
            x.vote(5);
            x.vote(1);
        }).nominated(0, 5).nominated(1, 0).open(5, 1));
        all.add(ofSix("a day with a dead one's vote that is gone", x -> {
            x.act(0, 5, 0);
            x.night();
            x.nominate(0, 5);
            x.vote(5);
            x.nominate(1, 1);
        }).nominated(0, 5).nominated(1, 1).open());
        all.add(ofSix("a day with one who is to be executed", x -> {
            x.night();
            Table.closed(x, 4, 1, 3);
        }).nominated(4, 1));
        all.add(ofSix("a day with a veto", x -> {
            x.night();
            Table.closed(x, 4, 1, 3);
            x.nominate(0, 2);
            x.veto(4);
        }).nominated(4, 1).nominated(0, 2).vetoed(true, 4));
        all.add(ofSix("a day after one with a veto", x -> {
            x.night();
            x.veto(4);
            x.dusk();
            x.night();
        }).vetoed(false, 4));
        all.add(ofSix("a day with 40 claims", x -> {
            x.night();
            claimAll(x);
        }).claims(40).bluffless(LIARS));
        all.add(ofEight("a day with too many ways", x -> {
            x.act(0, 7, 0);
            x.night();
            x.nominate(1, 0);
        }).nominated(1, 0).open());
    }

    private static void over(List<Scene> all) {
        all.add(ofFive("a game that the good have won, with a wrong telling", x -> {
            x.act(1, 0, 0);
            x.night();
            x.slip(0, 0);
            Table.execute(x, 1, 0, 1, 2, 3);
        }).wrong().worldless(1).bluffless(0));
        all.add(ofFive("a game that a mayor has won after a veto", x -> {
            x.act(0, 1, 0);
            x.act(2, 2, 0);
            x.night();
            x.veto(4);
            x.dusk();
        }).vetoed(true, 4));
        all.add(ofFive("a game that evil has won, with 40 claims", x -> {
            for (int claim = 0; claim < 40; claim++) {
                x.claimSide(0, 0, 'g');
            }
            x.act(0, 1, 0);
            x.act(2, 2, 0);
            x.night();
            Table.execute(x, 0, 3, 0, 3);
        }).claims(40));
    }

    private static void nobodyLives(List<Scene> all) {
        String[] killers = {"ek1e", "gk2e", "g-0e", "gk3e"};
        all.add(new Scene("a game in which nobody lives", () -> allDie(killers, 0, 1, 1), killers).bag(0, 1, 1)
                .listed(0, 1, 1).bluffless(0));
        all.add(new Scene("a game in which one lives", () -> {
            NightfallCouncil x = Table.deal(Table.roles(killers), true, true, 0, 1, 1);
            x.act(0, 1, 0);
            x.act(1, 0, 0);
            x.night();
            return x;
        }, killers).bag(0, 1, 1).listed(0, 1, 1).bluffless(0));
        String[] eight = {"ek1e", "gk2e", "gk3e", "gk4e", "gk5e", "gk6e", "gk7e", "gk8e"};
        all.add(new Scene("a game with too many ways in which nobody lives", () -> allDie(eight, EIGHT_CARDS), eight)
                .bag(EIGHT_CARDS).listed(EIGHT_CARDS));
    }

    private static NightfallCouncil allDie(String[] killers, int... cards) {
        NightfallCouncil x = Table.deal(Table.roles(killers), true, true, cards);
        for (int seat = 0; seat < cards.length; seat++) {
            x.act(seat, seat, 0);
        }
        x.night();
        return x;
    }
}
