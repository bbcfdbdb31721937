import java.lang.reflect.InvocationTargetException;
import java.lang.reflect.Method;
import java.util.Arrays;
import java.util.HashMap;
import java.util.Map;
import java.util.regex.Matcher;
import java.util.regex.Pattern;

/** Calls by their names, on the program's object or on the model. */
final class Calls {
    /** A call as it is written: its name and, in brackets, numbers or characters in quotes. */
    static final String WRITTEN = "(\\w+)\\(((?:'.'|-?\\d+)?(?:, (?:'.'|-?\\d+))*)\\)";

    private static final Pattern ARGUMENT = Pattern.compile("'(.)'|(-?\\d+)");
    private static final Map<String, Method> FOUND = new HashMap<>();

    private Calls() { }

    static int make(Object on, String name, int... arguments) {
        Object[] boxed = new Object[arguments.length];
        for (int i = 0; i < boxed.length; i++) {
            boxed[i] = arguments[i];
        }
        try {
            return (Integer) method(on.getClass(), name, boxed.length).invoke(on, boxed);
        } catch (InvocationTargetException fault) {
            throw new IllegalStateException(text(name, arguments), fault.getCause());
        } catch (ReflectiveOperationException fault) {
            throw new IllegalStateException(text(name, arguments), fault);
        }
    }

    private static Method method(Class<?> of, String name, int parameters)
            throws ReflectiveOperationException {
        String key = of.getName() + " " + name + " " + parameters;
        Method found = FOUND.get(key);
        if (found == null) {
            Class<?>[] types = new Class<?>[parameters];
            Arrays.fill(types, int.class);
            found = of.getDeclaredMethod(name, types);
            FOUND.put(key, found);
        }
        return found;
    }

    /** The numbers between the brackets of a call as it is written. */
    static int[] arguments(String written) {
        Matcher matcher = ARGUMENT.matcher(written);
        return matcher.results().mapToInt(each -> each.group(1) == null
                ? Integer.parseInt(each.group(2)) : each.group(1).charAt(0)).toArray();
    }

    static String text(String name, int... arguments) {
        StringBuilder text = new StringBuilder(name).append('(');
        for (int i = 0; i < arguments.length; i++) {
            text.append(i == 0 ? "" : ", ").append(arguments[i]);
        }
        return text.append(')').toString();
    }
}
