import java.lang.reflect.InvocationTargetException;
import java.lang.reflect.Method;
import java.util.HashMap;
import java.util.Map;

/** Calls by name, on the class and on the Oracle, with their answers as texts. */
final class Calls {
    private static final Map<String, Method> BOARD = methods(Huffboard.class);
    private static final Map<String, Method> ORACLE = methods(Oracle.class);

    private Calls() {
    }

    private static Map<String, Method> methods(Class<?> kind) {
        Map<String, Method> found = new HashMap<>();
        for (Method method : kind.getMethods()) {
            if (method.getDeclaringClass() == kind) {
                found.put(method.getName(), method);
            }
        }
        return found;
    }

    static String on(Huffboard board, String name, Object... arguments) {
        return answer(BOARD.get(name), board, arguments);
    }

    static String on(Oracle oracle, String name, Object... arguments) {
        return answer(ORACLE.get(name), oracle, arguments);
    }

    /** What the call answers, or the name of what it throws. */
    private static String answer(Method method, Object object, Object... arguments) {
        try {
            return String.valueOf(method.invoke(object, arguments));
        } catch (InvocationTargetException e) {
            return e.getCause().getClass().getSimpleName();
        } catch (IllegalAccessException e) {
            return e.toString();
        }
    }

    /** The arguments of a call that is told in words, as in "put 7 m". */
    static Object[] arguments(String[] words) {
        Class<?>[] kinds = BOARD.get(words[0]).getParameterTypes();
        Object[] arguments = new Object[kinds.length];
        for (int i = 0; i < kinds.length; i++) {
            String word = words[i + 1];
            if (kinds[i] == int.class) {
                arguments[i] = Integer.valueOf(word);
            } else if (kinds[i] == char.class) {
                arguments[i] = word.charAt(0);
            } else {
                arguments[i] = Boolean.valueOf(word);
            }
        }
        return arguments;
    }
}
