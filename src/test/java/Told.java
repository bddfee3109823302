import java.lang.reflect.InvocationTargetException;
import java.lang.reflect.Method;
import java.util.Arrays;
import java.util.HashMap;
import java.util.Map;

/** A call told in words, as "person(0, MAX)", that can be made on any object. */
final class Told {
    private static final Map<String, Method> METHODS = new HashMap<>();
    private static final Map<String, Told> KNOWN = new HashMap<>();

    final String words;
    private final Method method;
    private final Object[] args;

    private Told(String words) {
        this.words = words;
        int open = words.indexOf('(');
        method = methodOf(words.substring(0, open));
        String inside = words.substring(open + 1, words.lastIndexOf(')')).trim();
        args = inside.isEmpty() ? new Object[0] : Arrays.stream(inside.split(",")).map(Told::number).toArray();
    }

    static Told of(String words) {
        return KNOWN.computeIfAbsent(words, Told::new);
    }

    /** What it answers; an exception is a fault of the case, and counts as 0. */
    int go(TwoBelow x) {
        try {
            return (Integer) method.invoke(x, args);
        } catch (InvocationTargetException e) {
            Edge.FAULTS.add(words + " threw " + e.getCause());
            return 0;
        } catch (IllegalAccessException e) {
            throw new IllegalStateException(words, e);
        }
    }

    private static Object number(String word) {
        String w = word.trim();
        return w.equals("MIN") ? (Integer) Edge.MIN : w.equals("MAX") ? (Integer) Edge.MAX : (Integer) Integer.parseInt(w);
    }

    private static Method methodOf(String name) {
        if (METHODS.isEmpty()) {
            for (Method m : TwoBelow.class.getDeclaredMethods()) {
                METHODS.put(m.getName(), m);
            }
        }
        return METHODS.get(name);
    }
}
