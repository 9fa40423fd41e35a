import java.lang.reflect.InvocationTargetException;
import java.lang.reflect.Method;
import java.lang.reflect.Modifier;
import java.util.Arrays;
import java.util.List;

/** Makes calls that are told by their names. */
final class Calls {
    private Calls() {
    }

    /** What a call answers, or the name of the exception that it throws. */
    static Object answer(Object it, String name, Object... args) {
        try {
            return method(it, name).invoke(it, args);
        } catch (InvocationTargetException e) {
            return e.getCause().getClass().getSimpleName();
        } catch (IllegalAccessException e) {
            throw new AssertionError(e);
        }
    }

    /** The same with numbers alone, for signs by their numbers, and 0 for false. */
    static Object answerByNumbers(Object it, String name, int... numbers) {
        Class<?>[] types = method(it, name).getParameterTypes();
        Object[] args = new Object[types.length];
        for (int i = 0; i < args.length; i++) {
            args[i] = types[i] == char.class ? (Object) (char) numbers[i]
                    : types[i] == boolean.class ? (Object) (numbers[i] != 0) : numbers[i];
        }
        return answer(it, name, args);
    }

    static Method method(Object it, String name) {
        for (Method method : it.getClass().getDeclaredMethods()) {
            boolean isOfFace = it instanceof Model || Modifier.isPublic(method.getModifiers());
            if (isOfFace && method.getName().equals(name) && !hasLists(method)) {
                return method;
            }
        }
        throw new AssertionError("no method " + name);
    }

    /** Model has helpers that bear the names of calls, and answer or take worlds. */
    private static boolean hasLists(Method method) {
        return List.class == method.getReturnType() || Arrays.asList(method.getParameterTypes()).contains(List.class);
    }
}
