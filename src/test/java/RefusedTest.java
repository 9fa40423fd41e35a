import java.util.ArrayList;
import java.util.Arrays;
import java.util.LinkedHashSet;
import java.util.List;
import java.util.Set;
import java.util.TreeSet;
import java.util.function.BiPredicate;

/**
 * What each call refuses: the exceptions of each promise in the order of the document, at many points of games, with
 * arguments in and out of range. Of several conditions the first one counts, and a refused call changes nothing.
 */
public final class RefusedTest {
    private static final Class<?> ARGUMENT = IllegalArgumentException.class;
    private static final Class<?> STATE = IllegalStateException.class;
    private static final Class<?> INDEX = IndexOutOfBoundsException.class;
    private static final Class<?> UNSUPPORTED = UnsupportedOperationException.class;
    private static final Class<?> NOTHING = java.util.NoSuchElementException.class;
    private static final Class<?> ARITHMETIC = ArithmeticException.class;
    /** So many refused calls are made on one council, so that it stays within its 512. */
    private static final int AT_ONCE = 50;

    /** A condition, in the words of the document. */
    private record Rule(Class<?> kind, String text, BiPredicate<Scene, int[]> holds) {
    }

    /** A call, the kinds of its arguments, and its rules. */
    private record Row(int promise, String name, String kinds, List<Rule> rules, Set<Integer> met) {
        Row refuses(Class<?> kind, String text, BiPredicate<Scene, int[]> holds) {
            rules.add(new Rule(kind, text, holds));
            return this;
        }
    }

    private final List<Row> rows = new ArrayList<>();

    private RefusedTest() {
        roles();
        games();
        nightsAndDays();
        claims();
        looks();
        worlds();
        slips();
        others();
    }

    public static void main(String[] args) {
        RefusedTest test = new RefusedTest();
        test.areOfTheDocument();
        for (Scene scene : Scenes.all()) {
            String[] futures = {Future.of(scene.make(), false), Future.of(scene.make(), true)};
            for (Row row : test.rows) {
                test.look(scene, row, futures);
            }
        }
        test.areMet();
        Due.end("RefusedTest");
    }

    /** The arguments' kinds: r role, s seat, p player, t telling, n number, o order, b yes or no, and signs. */
    private Row call(int promise, String name, String kinds) {
        Row row = new Row(promise, name, kinds, new ArrayList<>(), new TreeSet<>());
        rows.add(row);
        return row;
    }

    private void roles() {
        call(2, "role", "SAoW")
                .refuses(ARGUMENT, "if there is no such side, act or way, or the order is out of range",
                        (s, a) -> isNot("ge", a[0]) || isNot("-bxdpkchwsln", a[1]) || isNot("eo", a[3]) || a[2] < 0
                                || a[2] > 9)
                .refuses(STATE, "if there are 10, or a game was dealt", (s, a) -> s.roles() == 10 || s.isGame());
        call(3, "register", "rSr")
                .refuses(INDEX, "if there is no such role, for either", (s, a) -> !s.isRole(a[0]) || !s.isRole(a[2]))
                .refuses(ARGUMENT, "if there is no such side", (s, a) -> isNot("ge", a[1]))
                .refuses(STATE, "if a game was dealt", (s, a) -> s.isGame());
        call(4, "trait", "rT")
                .refuses(INDEX, "if there is no such role", (s, a) -> !s.isRole(a[0]))
                .refuses(ARGUMENT, "if there is no such trait", (s, a) -> isNot("-jmvd", a[1]))
                .refuses(STATE, "if a game was dealt", (s, a) -> s.isGame());
        call(5, "turnInto", "rr")
                .refuses(INDEX, "if there is no such role, for either", (s, a) -> !s.isRole(a[0]) || !s.isRole(a[1]))
                .refuses(STATE, "if a game was dealt", (s, a) -> s.isGame());
        call(6, "bag", "r")
                .refuses(INDEX, "if there is no such role", (s, a) -> !s.isRole(a[0]))
                .refuses(STATE, "if it has 8, or a game was dealt", (s, a) -> s.bagged() == 8 || s.isGame());
        call(7, "list", "rr")
                .refuses(INDEX, "if there is no such role, for either that is meant",
                        (s, a) -> !s.isRole(a[0]) || s.isDrunk(a[0]) && !s.isRole(a[1]))
                .refuses(UNSUPPORTED, "if not so many of the role are in the bag, or the role in which a drunk one "
                        + "believes is drunk", (s, a) -> !s.hasMore(a[0]) || s.isDrunk(a[0]) && s.isDrunk(a[1]))
                .refuses(STATE, "if a game was dealt", (s, a) -> s.isGame());
    }

    private void games() {
        call(8, "deal", "bb")
                .refuses(UNSUPPORTED, "if not all of the bag is listed, or it has less than 3",
                        (s, a) -> !s.isAllListed() || s.bagged() < 3)
                .refuses(STATE, "if a game was dealt", (s, a) -> s.isGame());
        call(9, "gather", "");
        call(10, "empty", "").refuses(STATE, "if a game was dealt", (s, a) -> s.isGame());
        needsGame(call(11, "sit", "sp"))
                .refuses(INDEX, "if there is no such seat", (s, a) -> !s.isSeat(a[0]))
                .refuses(ARGUMENT, "if there is no such player, or it sits on another seat",
                        (s, a) -> !s.isPlayer(a[1]) || s.sitsElsewhere(a[0], a[1]));
    }

    private static Row needsGame(Row row) {
        return row.refuses(STATE, "if there is no game", (s, a) -> !s.isGame());
    }

    private static Row goesOn(Row row) {
        return row.refuses(STATE, "if no game goes on", (s, a) -> !s.isGoing());
    }

    private void nightsAndDays() {
        goesOn(call(12, "act", "sss"))
                .refuses(UNSUPPORTED, "if it is day", (s, a) -> s.isDay())
                .refuses(INDEX, "if there is no such seat, target, or second one that is meant", (s, a) -> !s.isSeat(a[0])
                        || !s.isSeat(a[1]) || s.hasSecond(a[0]) && !s.isSeat(a[2]))
                .refuses(ARGUMENT, "if the second one is the target, for x, h and w",
                        (s, a) -> s.hasSecond(a[0]) && a[1] == a[2])
                .refuses(NOTHING, "if the seat is dead, or believes in a role without an act that has a target",
                        (s, a) -> !s.isAlive(a[0]) || !isNot("-n", s.actOf(a[0])));
        goesOn(call(13, "night", "")).refuses(UNSUPPORTED, "if it is day", (s, a) -> s.isDay());
        goesOn(call(14, "nominate", "ss"))
                .refuses(UNSUPPORTED, "if it is night, or there was a veto", (s, a) -> s.isNight() || s.isVetoed)
                .refuses(INDEX, "if there is no such seat, for either", (s, a) -> !s.isSeat(a[0]) || !s.isSeat(a[1]))
                .refuses(NOTHING, "if the one who nominates is dead, has done so today, or the other one was nominated "
                        + "today", (s, a) -> !s.isAlive(a[0]) || s.hasNominated(a[0]) || s.wasNominated(a[1]));
        goesOn(call(15, "vote", "s"))
                .refuses(UNSUPPORTED, "if no nomination is open", (s, a) -> !s.isOpen)
                .refuses(INDEX, "if there is no such seat", (s, a) -> !s.isSeat(a[0]))
                .refuses(NOTHING, "if it has voted, or is dead without a ghost vote",
                        (s, a) -> s.hasVoted(a[0]) || !s.isAlive(a[0]) && !s.hasGhost(a[0]));
        goesOn(call(16, "close", "")).refuses(UNSUPPORTED, "if no nomination is open", (s, a) -> !s.isOpen);
        goesOn(call(17, "veto", "s"))
                .refuses(UNSUPPORTED, "if it is night, or there was a veto today", (s, a) -> s.isNight() || s.isVetoed)
                .refuses(INDEX, "if there is no such seat", (s, a) -> !s.isSeat(a[0]))
                .refuses(NOTHING, "if it cannot", (s, a) -> !s.canVeto(a[0]));
        goesOn(call(18, "dusk", "")).refuses(UNSUPPORTED, "if it is night", (s, a) -> s.isNight());
    }

    private void claims() {
        call(19, "claimRole", "ssr")
                .refuses(STATE, "if no game goes on, or there are 40", (s, a) -> !s.isGoing() || s.claims == 40)
                .refuses(INDEX, "if there is no such seat, for either, or role",
                        (s, a) -> !s.isSeat(a[0]) || !s.isSeat(a[1]) || !s.isRole(a[2]));
        call(20, "claimSide", "ssS")
                .refuses(STATE, "if no game goes on, or there are 40", (s, a) -> !s.isGoing() || s.claims == 40)
                .refuses(INDEX, "if there is no such seat, for either", (s, a) -> !s.isSeat(a[0]) || !s.isSeat(a[1]))
                .refuses(ARGUMENT, "if there is no such side", (s, a) -> isNot("ge", a[2]));
    }

    private void looks() {
        call(21, "state", "");
        needsGame(call(22, "nights", ""));
        needsGame(call(23, "seat", "sC"))
                .refuses(INDEX, "if there is no such seat", (s, a) -> !s.isSeat(a[0]))
                .refuses(ARGUMENT, "if there is no such thing", (s, a) -> isNot("cblpghw", a[1]));
        needsGame(call(24, "living", ""));
        needsGame(call(25, "tellings", ""));
        needsGame(call(26, "telling", "tV"))
                .refuses(INDEX, "if there is no such telling", (s, a) -> !s.isTelling(a[0]))
                .refuses(ARGUMENT, "if there is no such thing", (s, a) -> isNot("nstvf", a[1]));
        needsGame(call(27, "actOf", "t"))
                .refuses(INDEX, "if there is no such telling", (s, a) -> !s.isTelling(a[0]));
    }

    private static Row countsWorlds(Row row) {
        return row.refuses(UNSUPPORTED, "if there are more than 2000 ways to deal the bag", (s, a) -> s.isMany());
    }

    private static Row hasSeat(Row row) {
        return needsGame(row).refuses(INDEX, "if there is no such seat", (s, a) -> !s.isSeat(a[0]));
    }

    private static Row hasSeats(Row row) {
        return needsGame(row).refuses(INDEX, "if there is no such seat, for either",
                (s, a) -> !s.isSeat(a[0]) || !s.isSeat(a[1]));
    }

    private void worlds() {
        call(28, "ways", "");
        countsWorlds(needsGame(call(29, "openWorlds", "")));
        countsWorlds(hasSeat(call(30, "worlds", "s")));
        countsWorlds(needsGame(call(31, "chanceOf", "ssr")).refuses(INDEX, "if there is no such seat, for either, or role",
                (s, a) -> !s.isSeat(a[0]) || !s.isSeat(a[1]) || !s.isRole(a[2])));
        countsWorlds(hasSeats(call(32, "evilChance", "ss")));
        countsWorlds(hasSeats(call(33, "knows", "ss")));
        countsWorlds(hasSeat(call(34, "bestVote", "s"))).refuses(NOTHING, "if there is no such one, or no world",
                (s, a) -> !s.hasLivingOther(a[0]) || s.isWorldless(a[0]));
        countsWorlds(needsGame(call(35, "leastLiars", ""))).refuses(NOTHING, "if there is no world", (s, a) -> false);
        countsWorlds(hasSeat(call(36, "claimed", "s")));
        countsWorlds(hasSeat(call(37, "bluff", "s"))).refuses(NOTHING, "if there is none", (s, a) -> s.isBluffless(a[0]));
    }

    private void slips() {
        goesOn(call(38, "slip", "tn"))
                .refuses(INDEX, "if there is no such telling", (s, a) -> !s.isTelling(a[0]))
                .refuses(ARGUMENT, "if a number is out of range", (s, a) -> a[1] < 0 || a[1] > 9);
        needsGame(call(39, "firstWrong", "")).refuses(NOTHING, "if there is none", (s, a) -> !s.isWrong);
        needsGame(call(40, "voidNights", ""));
        goesOn(call(41, "mend", "")).refuses(NOTHING, "if there is none", (s, a) -> !s.isWrong);
    }

    private void others() {
        call(42, "rating", "pS").refuses(ARGUMENT, "if there is no such player or side",
                (s, a) -> !s.isPlayer(a[0]) || isNot("ge", a[1]));
        call(43, "roles", "");
        needsGame(call(44, "checksum", ""));
        needsGame(call(45, "evilShare", "")).refuses(ARITHMETIC, "if none are living", (s, a) -> !s.isAnyAlive());
        countsWorlds(needsGame(call(46, "meanWorlds", ""))).refuses(ARITHMETIC, "if none are living",
                (s, a) -> !s.isAnyAlive());
        call(47, "isSound", "");
    }

    private static boolean isNot(String signs, int sign) {
        return signs.indexOf(sign) < 0;
    }

    /** The rules are all that the document has, word by word, and in its order. */
    private void areOfTheDocument() {
        Due.is("all promises but the first one, which makes a council", rows.size(), 46);
        for (int i = 0; i < rows.size(); i++) {
            Row row = rows.get(i);
            Due.is("promises in their order", row.promise, i + 2);
            List<String> texts = row.rules.stream().map(rule -> rule.kind.getSimpleName() + ": " + rule.text).toList();
            Due.is("exceptions of " + row.name, texts, Doc.exceptionsOf(row.promise));
        }
        Due.is("exceptions of the first promise", Doc.exceptionsOf(1), List.of());
    }

    /** Each rule was the answer at least once, but those that no run of calls can meet. */
    private void areMet() {
        for (Row row : rows) {
            for (int rule = 0; rule < row.rules.size(); rule++) {
                boolean isUnreachable = row.name.equals("list") && rule == 2 || row.name.equals("leastLiars") && rule == 2;
                Due.is(row.name + " was refused " + row.rules.get(rule).text, row.met.contains(rule), !isUnreachable);
            }
        }
    }

    private void look(Scene scene, Row row, String[] futures) {
        List<int[]> refused = new ArrayList<>();
        for (int[] args : argumentsOf(scene, row)) {
            if (firstRule(scene, row, args) >= 0) {
                refused.add(args);
                continue;
            }
            NightfallCouncil x = scene.make();
            Object got = Calls.answerByNumbers(x, row.name, args);
            boolean isRefused = got instanceof String && ((String) got).endsWith("Exception");
            Due.is(told(scene, row, args), isRefused ? got : "answered", "answered");
        }
        for (int from = 0; from < refused.size(); from += AT_ONCE) {
            List<int[]> some = refused.subList(from, Math.min(refused.size(), from + AT_ONCE));
            boolean areTold = from / AT_ONCE % 2 == 1;
            refuse(scene, row, some, areTold, futures[areTold ? 1 : 0]);
            if (refused.size() <= AT_ONCE) {
                refuse(scene, row, some, true, futures[1]);
            }
        }
    }

    /** Makes refused calls on a council, that then goes on as if they had not been made. */
    private void refuse(Scene scene, Row row, List<int[]> refused, boolean areTold, String future) {
        NightfallCouncil x = scene.make();
        for (int[] args : refused) {
            int rule = firstRule(scene, row, args);
            row.met.add(rule);
            Due.is(told(scene, row, args), Calls.answerByNumbers(x, row.name, args),
                    row.rules.get(rule).kind.getSimpleName());
        }
        Due.is("what comes after refused calls of " + row.name + " in " + scene.name, Future.of(x, areTold), future);
    }

    private static int firstRule(Scene scene, Row row, int[] args) {
        for (int rule = 0; rule < row.rules.size(); rule++) {
            if (row.rules.get(rule).holds.test(scene, args)) {
                return rule;
            }
        }
        return -1;
    }

    private static String told(Scene scene, Row row, int[] args) {
        return row.name + Arrays.toString(args) + " in " + scene.name;
    }

    private static List<int[]> argumentsOf(Scene scene, Row row) {
        List<int[]> all = new ArrayList<>();
        all.add(new int[0]);
        for (char kind : row.kinds.toCharArray()) {
            List<int[]> longer = new ArrayList<>();
            for (int[] args : all) {
                for (int value : valuesOf(scene, kind)) {
                    int[] more = Arrays.copyOf(args, args.length + 1);
                    more[args.length] = value;
                    longer.add(more);
                }
            }
            all = longer;
        }
        return all;
    }

    /** Values just inside and just outside of what is in range. */
    private static Set<Integer> valuesOf(Scene scene, char kind) {
        return switch (kind) {
            case 'r' -> numbers(-1, 0, 1, 2, 4, scene.roles() - 1, scene.roles(), Integer.MAX_VALUE);
            case 's' -> numbers(-1, 0, 1, 3, 4, 5, scene.seats() - 1, scene.seats(), Integer.MIN_VALUE);
            case 'p' -> numbers(-1, 0, 1, 6, 7, 8, Integer.MAX_VALUE);
            case 't' -> numbers(-1, 0, 1, 2, 59, 60, Integer.MIN_VALUE);
            case 'n', 'o' -> numbers(-1, 0, 9, 10, Integer.MIN_VALUE, Integer.MAX_VALUE);
            case 'b' -> numbers(0, 1);
            case 'S' -> numbers('g', 'e', 'q', 'g' + 256);
            case 'A' -> numbers('-', 'n', 'z');
            case 'W' -> numbers('e', 'o', 'n');
            case 'T' -> numbers('-', 'j', 'd', 'e', 0);
            case 'C' -> numbers('c', 'w', 'n', 0);
            case 'V' -> numbers('n', 'f', 'c', 65535);
            default -> throw new AssertionError(kind);
        };
    }

    private static Set<Integer> numbers(int... numbers) {
        Set<Integer> set = new LinkedHashSet<>();
        for (int number : numbers) {
            set.add(number);
        }
        return set;
    }
}
