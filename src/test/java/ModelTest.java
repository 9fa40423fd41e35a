import java.util.ArrayList;
import java.util.Arrays;
import java.util.List;
import java.util.SplittableRandom;

/** Long runs of calls, each compared with what Model answers; the same runs each time. */
public final class ModelTest {
    private static final String[] SETUP = {"role", "register", "trait", "turnInto", "bag", "list", "deal", "gather",
        "empty", "sit"};
    private static final String[] GAME = {"act", "night", "nominate", "vote", "close", "veto", "dusk", "claimRole",
        "claimSide", "slip", "mend", "sit"};
    private static final String[] LOOK = {"state", "nights", "seat", "living", "tellings", "telling", "actOf", "ways",
        "openWorlds", "worlds", "chanceOf", "evilChance", "knows", "bestVote", "leastLiars", "claimed", "bluff",
        "firstWrong", "voidNights", "rating", "roles", "checksum", "evilShare", "meanWorlds", "isSound"};
    private static final int CALLS = 512;

    private final SplittableRandom random;
    private final NightfallCouncil council = new NightfallCouncil();
    private final Model model = new Model();
    private final List<String> calls = new ArrayList<>();
    private final List<Integer> cards = new ArrayList<>();
    private int roles;
    private int seats = 8;

    private ModelTest(long seed) {
        random = new SplittableRandom(seed);
    }

    public static void main(String[] args) {
        int runs = args.length > 0 ? Integer.parseInt(args[0]) : 1500;
        for (int seed = 0; seed < runs; seed++) {
            new ModelTest(seed).run();
        }
        Due.end("ModelTest");
    }

    private void run() {
        if (pick(8) == 0) {
            makeRoles();
            wild();
            return;
        }
        while (calls.size() < CALLS) {
            makeRoles();
            game();
        }
    }

    /** Calls of all kinds in no order. */
    private void wild() {
        while (calls.size() < CALLS) {
            make(pick(3) == 0 ? any(SETUP) : any(GAME));
            look(1);
        }
    }

    private void makeRoles() {
        while (roles < 3 || roles < 10 && pick(4) > 0) {
            char side = pick(4) == 0 ? 'e' : 'g';
            char act = "-bxdpkchwsln".charAt(pick(12));
            if (same("role", side, act, pick(10), pick(4) == 0 ? 'o' : 'e') instanceof Integer role) {
                roles = role + 1;
            } else {
                return;
            }
            if (pick(3) == 0) {
                same("trait", roles - 1, "jmvdd".charAt(pick(5)));
            }
            make("register", "turnInto", "role", "look");
        }
    }

    /** A whole game that is mostly told in order, with wrong calls between. */
    private void game() {
        same("gather");
        if (pick(3) == 0 || cards.isEmpty()) {
            fillBag();
        }
        listBag();
        make("trait", "look", "look", "look");
        if (same("deal", pick(4) > 0, pick(2) == 0) instanceof Integer dealt) {
            seats = dealt;
        }
        for (int day = 0; day < 9 && model.state() == 'n'; day++) {
            for (int seat = 0; seat < seats; seat++) {
                if (pick(5) > 0) {
                    same("act", seat, pick(seats), pick(seats));
                }
            }
            look(2);
            make("act", "sit", "slip", "mend", "claimRole", "claimSide", "dusk", "vote");
            same("night");
            look(8);
            day();
            look(8);
        }
    }

    private void fillBag() {
        same("empty");
        cards.clear();
        int size = 3 + pick(6);
        int kinds = 1 + pick(roles);
        for (int i = 0; i < size; i++) {
            int role = pick(pick(4) == 0 ? roles : kinds);
            same("bag", role);
            cards.add(role);
        }
    }

    private void listBag() {
        for (int i = cards.size() - 1; i > 0; i--) {
            int other = pick(i + 1);
            int card = cards.get(i);
            cards.set(i, cards.get(other));
            cards.set(other, card);
        }
        for (int card : cards) {
            for (int tries = 0; tries < 5; tries++) {
                if (same("list", card, pick(roles)) instanceof Integer) {
                    break;
                }
            }
        }
        make("list", "look", "look", "look");
    }

    private void day() {
        for (int i = pick(6); i > 0; i--) {
            make("claimRole", "claimSide", "slip", "mend", "nominate");
        }
        for (int i = pick(4); i > 0; i--) {
            same("nominate", pick(seats), pick(seats));
            for (int seat = 0; seat < seats; seat++) {
                if (pick(3) > 0) {
                    same("vote", seat);
                }
            }
            make("close", "nominate", "veto", "veto", "vote");
        }
        same("dusk");
    }

    private void look(int times) {
        for (int i = 0; i < times; i++) {
            make("look");
        }
    }

    /** Makes a call of one of these names with arguments that are often in range. */
    private void make(String... names) {
        String name = any(names);
        if (name.equals("look")) {
            name = any(LOOK);
        }
        Class<?>[] types = Calls.method(council, name).getParameterTypes();
        Object[] args = new Object[types.length];
        for (int i = 0; i < args.length; i++) {
            args[i] = types[i] == int.class ? (Object) number() : types[i] == char.class ? sign(name, i) : pick(2) == 0;
        }
        Object got = same(name, args);
        if (name.equals("role") && got instanceof Integer role) {
            roles = role + 1;
        }
    }

    private int number() {
        return pick(12) == 0 ? pick(2) == 0 ? -1 : 8 + pick(60) : pick(Math.max(roles, seats));
    }

    private char sign(String name, int place) {
        String signs = switch (name + place) {
            case "role1" -> "-bxdpkchwslnq";
            case "role3" -> "eeeoq";
            case "trait1" -> "---jmvdq";
            case "seat1" -> "cblpghwq";
            case "telling1" -> "nstvfq";
            default -> "gegegeq";
        };
        return signs.charAt(pick(signs.length()));
    }

    private int pick(int bound) {
        return random.nextInt(bound);
    }

    private String any(String[] names) {
        return names[pick(names.length)];
    }

    /** Makes a call on both, and compares; answers what the council answered, or the exception's name. */
    private Object same(String name, Object... args) {
        if (calls.size() >= CALLS) {
            return "no more calls";
        }
        calls.add(name + Arrays.toString(args));
        Object got = Calls.answer(council, name, args);
        Object want = Calls.answer(model, name, args);
        Due.is(name, got, want);
        if (!String.valueOf(got).equals(String.valueOf(want))) {
            System.out.println(String.join("\n", calls));
            System.exit(1);
        }
        return got;
    }
}
