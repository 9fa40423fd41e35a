import java.util.ArrayList;
import java.util.List;
import java.util.Objects;

/** Compares answers with those that are due, and counts those that are not. */
final class Due {
    /** A call whose answer, or whose exception, is looked at. */
    interface Call {
        Object make();
    }

    private static int calls = 0;
    private static int wrong = 0;

    private Due() {
    }

    /** Numbers are compared as numbers, so that 'n' and 110 are no difference of types alone. */
    static void is(String what, Object got, Object want) {
        calls++;
        if (!Objects.equals(plain(got), plain(want))) {
            wrong++;
            System.out.println(what + " answered " + got + ", due is " + want);
        }
    }

    /** The call throws just this exception, and changes nothing that can be seen. */
    static void fails(String what, NightfallCouncil council, Class<?> kind, Call call) {
        String before = Sight.of(council);
        Object got;
        try {
            got = "answered " + call.make();
        } catch (RuntimeException e) {
            got = e.getClass().getSimpleName();
        }
        is(what, got, kind.getSimpleName());
        is(what + ", what is seen after it", Sight.of(council), before);
    }

    /** Every answer of several calls, in their order. */
    static List<Object> all(Call... them) {
        List<Object> answers = new ArrayList<>();
        for (Call call : them) {
            answers.add(plain(call.make()));
        }
        return answers;
    }

    static void end(String test) {
        System.out.println(test + ": " + calls + " answers, " + wrong + " not as due");
        if (wrong != 0) {
            System.exit(1);
        }
    }

    private static Object plain(Object value) {
        if (value instanceof Integer number) {
            return (long) number;
        }
        if (value instanceof Float share) {
            return (double) share;
        }
        return value;
    }
}
