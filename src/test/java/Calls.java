import java.lang.reflect.InvocationTargetException;
import java.lang.reflect.Method;
import java.util.Arrays;

/** Each call of the face by its number, on Deeprows and on the store that it is held against. */
final class Calls {
    static final String[] NAMES = {"make", "drop", "empty", "put", "say", "none", "hang", "swap", "fill", "fillRow",
        "setAll", "setRows", "twin", "deepTwin", "copy", "kind", "length", "depth", "what", "at", "isDeep", "isFlat",
        "areDeep", "hash", "flatHash", "text", "differ", "compare", "knock", "house", "isSound", "digest"};
    /**
     * What each call takes: K a kind, L a length, R a row, P a place, N a NUMBER, T a text, S a stop, F from, W what
     * house() tells.
     */
    static final String[] TAKES = {"KL", "", "", "RPN", "RPT", "RP", "RPR", "RPP", "RN", "RR", "RNNS", "RF", "R", "R",
        "RL", "R", "R", "R", "RP", "RP", "RR", "RR", "RPRP", "R", "R", "R", "RR", "RR", "", "W", "", ""};
    static final int DIGEST = 31;

    private static final int FIRST_THAT_ASKS = 15;
    private static final int KNOCK = 28;
    private static final Method[] OF_DEEPROWS = methodsOf(Deeprows.class);
    private static final Method[] OF_LIBRARY = methodsOf(LibraryStore.class);

    private Calls() {
    }

    private static Method[] methodsOf(Class<?> type) {
        Method[] methods = new Method[NAMES.length];
        for (int which = 0; which < NAMES.length; which++) {
            Class<?>[] taken = new Class<?>[TAKES[which].length()];
            Arrays.fill(taken, int.class);
            try {
                methods[which] = type.getDeclaredMethod(NAMES[which], taken);
            } catch (NoSuchMethodException e) {
                throw new IllegalStateException(e);
            }
        }
        return methods;
    }

    static int numberOf(String name) {
        return Arrays.asList(NAMES).indexOf(name);
    }

    /** Whether the call changes something, if it does not throw. */
    static boolean changes(int which) {
        return which < FIRST_THAT_ASKS || which == KNOCK;
    }

    /** The answer, or the class of the exception that the call throws itself. */
    static Object answer(Deeprows x, int which, int... given) {
        return answer(OF_DEEPROWS[which], x, given);
    }

    static Object answer(LibraryStore y, int which, int... given) {
        return answer(OF_LIBRARY[which], y, given);
    }

    private static Object answer(Method method, Object store, int[] given) {
        Object[] boxed = new Object[given.length];
        for (int k = 0; k < given.length; k++) {
            boxed[k] = given[k];
        }
        try {
            return method.invoke(store, boxed);
        } catch (InvocationTargetException e) {
            return e.getCause() instanceof RuntimeException thrown ? Check.ownClassOf(thrown) : AssertionError.class;
        } catch (IllegalAccessException e) {
            throw new IllegalStateException(e);
        }
    }
}
