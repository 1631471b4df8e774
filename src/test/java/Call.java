import java.lang.reflect.InvocationTargetException;
import java.lang.reflect.Method;
import java.util.HashMap;
import java.util.Map;

/** A call of the face as a test writes it down, such as "fromCount(4, 3, KALENDS, 6, true)". */
final class Call {
    private static final Map<String, Method> METHODS = new HashMap<>();
    /** The document's own numbers, lest a wrong constant be taken for a wrong method. */
    private static final Map<String, Object> WORDS = new HashMap<>();

    static {
        for (Method method : RomanCalendar.class.getDeclaredMethods()) {
            METHODS.put(method.getName(), method);
        }
        WORDS.put("KALENDS", 0);
        WORDS.put("NONES", 1);
        WORDS.put("IDES", 2);
        WORDS.put("FASTUS", 0);
        WORDS.put("NEFASTUS", 1);
        WORDS.put("COMITIALIS", 2);
        WORDS.put("ENDOTERCISUS", 3);
        WORDS.put("LEAST", Integer.MIN_VALUE);
        WORDS.put("GREATEST", Integer.MAX_VALUE);
        WORDS.put("true", true);
        WORDS.put("false", false);
    }

    final String text;
    final String name;
    final Object[] arguments;

    Call(String text) {
        this.text = text;
        int open = text.indexOf('(');
        name = text.substring(0, open);
        String inside = text.substring(open + 1, text.length() - 1);
        String[] words = inside.isEmpty() ? new String[0] : inside.split(", ");
        arguments = new Object[words.length];
        for (int i = 0; i < words.length; i++) {
            Object known = WORDS.get(words[i]);
            arguments[i] = known != null ? known : Integer.valueOf(words[i]);
        }
    }

    /** Answers what the call returns, or "throws" with the very class of what it throws. */
    Object on(RomanCalendar x) {
        try {
            return METHODS.get(name).invoke(x, arguments);
        } catch (InvocationTargetException e) {
            return "throws " + e.getCause().getClass().getSimpleName();
        } catch (IllegalAccessException e) {
            throw new AssertionError(e);
        }
    }
}
