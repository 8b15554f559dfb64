import java.lang.reflect.InvocationTargetException;
import java.lang.reflect.Method;
import java.util.HashMap;
import java.util.Map;

/** Calls by name, on FirstPut or on the Model, so that a table can say which call is made with which numbers. */
final class Calls {
    private static final Map<String, Method> FOUND = new HashMap<>();

    private Calls() {
    }

    private static Method find(Class<?> type, String name) {
        String key = type.getName() + "." + name;
        Method known = FOUND.get(key);
        if (known != null) {
            return known;
        }
        for (Method m : type.getDeclaredMethods()) {
            if (m.getName().equals(name)) {
                FOUND.put(key, m);
                return m;
            }
        }
        throw new IllegalStateException("no call " + name);
    }

    /** How many numbers the call takes. */
    static int width(String name) {
        return find(FirstPut.class, name).getParameterCount();
    }

    static long ask(Object bank, String name, long... args) {
        Method m = find(bank.getClass(), name);
        Object[] boxed = new Object[args.length];
        for (int i = 0; i < args.length; i++) {
            if (m.getParameterTypes()[i] == long.class) {
                boxed[i] = args[i];
            } else {
                boxed[i] = Math.toIntExact(args[i]);
            }
        }
        try {
            return ((Number) m.invoke(bank, boxed)).longValue();
        } catch (InvocationTargetException e) {
            throw new IllegalStateException(shown(name, args) + " threw", e.getCause());
        } catch (IllegalAccessException e) {
            throw new IllegalStateException(e);
        }
    }

    static String shown(String name, long... args) {
        StringBuilder b = new StringBuilder(name).append('(');
        for (int i = 0; i < args.length; i++) {
            b.append(i == 0 ? "" : ", ").append(args[i]);
        }
        return b.append(')').toString();
    }

    /** The text comes behind what THE TAPE has, in eights of bytes with blanks behind it. */
    static void type(Object bank, String text) {
        long had = ask(bank, "count", 5);
        for (int from = 0; from < text.length(); from += 8) {
            long eight = 0;
            for (int i = from; i < from + 8; i++) {
                eight = eight << 8 | (i < text.length() ? text.charAt(i) & 255 : 32);
            }
            ask(bank, "feed", eight);
        }
        ask(bank, "end", had + text.length());
    }

    static long tell(Object bank, String text) {
        type(bank, text);
        return ask(bank, "bank");
    }
}
