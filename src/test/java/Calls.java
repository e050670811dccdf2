import java.lang.reflect.InvocationTargetException;
import java.lang.reflect.Method;
import java.util.HashMap;
import java.util.Map;

/**
 * Calls written as text, "rule 0 4 2 9 0", so that the same ones can be made on the program and on
 * PlainModel. MIN and MAX are the least and the greatest int.
 */
final class Calls {
    private static final Map<String, Method> FOUND = new HashMap<>();

    private Calls() {
    }

    /** What the object answered, "done" if the method answers nothing, or "throws " and the name. */
    static String answer(Object x, String call) {
        String[] words = call.split(" ");
        Object[] arguments = new Object[words.length - 1];
        for (int i = 0; i < arguments.length; i++) {
            arguments[i] = number(words[i + 1]);
        }
        try {
            Object answer = method(x, words[0]).invoke(x, arguments);
            return answer == null ? "done" : answer.toString();
        } catch (InvocationTargetException thrown) {
            return "throws " + thrown.getCause().getClass().getSimpleName();
        } catch (IllegalAccessException | IllegalArgumentException wrong) {
            throw new AssertionError("no such call: " + call, wrong);
        }
    }

    private static Integer number(String word) {
        return switch (word) {
            case "MIN" -> Integer.MIN_VALUE;
            case "MAX" -> Integer.MAX_VALUE;
            default -> Integer.valueOf(word);
        };
    }

    private static Method method(Object x, String name) {
        return FOUND.computeIfAbsent(x.getClass().getName() + " " + name, key -> search(x.getClass(), name));
    }

    private static Method search(Class<?> type, String name) {
        for (Method method : type.getDeclaredMethods()) {
            if (method.getName().equals(name)) {
                return method;
            }
        }
        throw new AssertionError("no method " + name);
    }
}
