import java.lang.reflect.InvocationTargetException;
import java.lang.reflect.Method;
import java.util.HashMap;
import java.util.Map;
import java.util.Set;
import java.util.TreeSet;
import java.util.regex.Matcher;
import java.util.regex.Pattern;

/** Makes calls of one village that are written as text, as a document writes them. */
final class Script {
    private static final Pattern CALL = Pattern.compile("(\\w+)\\(([^()]*)\\)");

    private final NightfallVillage village = new NightfallVillage();
    private final Map<String, Object> names = new HashMap<>();
    private final Set<String> called = new TreeSet<>();

    /** The answer of a call as text, or the simple name of what it throws. */
    String answer(String text) {
        return String.valueOf(run(text));
    }

    /** Keeps the answer of a call under a name, by which later calls may use it. */
    void keep(String name, String text) {
        names.put(name, run(text));
    }

    String kept(String name) {
        return String.valueOf(names.get(name));
    }

    Set<String> called() {
        return called;
    }

    /** The names of all methods of the face. */
    static Set<String> face() {
        Set<String> face = new TreeSet<>();
        for (Method method : NightfallVillage.class.getMethods()) {
            if (method.getDeclaringClass() == NightfallVillage.class) {
                face.add(method.getName());
            }
        }
        return face;
    }

    private Object run(String text) {
        Matcher call = CALL.matcher(text);
        if (!call.matches()) {
            return "no call: " + text;
        }
        String[] words = call.group(2).isEmpty() ? new String[0] : call.group(2).split(", ");
        Object[] values = new Object[words.length];
        for (int i = 0; i < words.length; i++) {
            values[i] = value(words[i]);
        }
        for (Method method : NightfallVillage.class.getMethods()) {
            if (method.getName().equals(call.group(1)) && method.getParameterCount() == values.length) {
                called.add(method.getName());
                return invoke(method, values);
            }
        }
        return "no such call: " + text;
    }

    private Object invoke(Method method, Object[] values) {
        try {
            return method.invoke(village, values);
        } catch (InvocationTargetException e) {
            return e.getCause().getClass().getSimpleName();
        } catch (IllegalAccessException | IllegalArgumentException e) {
            return "not to be called so: " + method.getName();
        }
    }

    private Object value(String word) {
        if (names.containsKey(word)) {
            return names.get(word);
        }
        if (word.length() == 3 && word.startsWith("'") && word.endsWith("'")) {
            return word.charAt(1);
        }
        if (word.equals("true") || word.equals("false")) {
            return word.equals("true");
        }
        return Integer.valueOf(word);
    }
}
