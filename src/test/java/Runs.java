import java.lang.reflect.Method;
import java.util.regex.Matcher;
import java.util.regex.Pattern;

/**
 * Runs of calls in the notation of the document's examples, "area(10) = 0; far(0, 0) = 0":
 * each run is made on a new object, and every call whose answer is not the one that is due is printed.
 * One word is added: text(..), without an answer, empties the buffer and types what stands in the brackets.
 */
final class Runs {
    private static final Pattern CALL =
            Pattern.compile("\\s*(\\w+)\\(([^()]*)\\)(?:\\s*=\\s*(-?\\d+))?\\s*");
    private static int wrong;
    private static int calls;

    private Runs() {
    }

    /** Makes the calls on a new object, and returns it for whatever else the test wants of it. */
    static AnySites run(String title, String... parts) {
        AnySites x = new AnySites();
        go(x, title, parts);
        return x;
    }

    static void go(AnySites x, String title, String... parts) {
        for (String part : parts) {
            // A text holds semicolons itself, so the calls are cut behind their answers only.
            for (String call : part.split(";(?![^(]*\\))")) {
                if (!call.isBlank()) {
                    one(x, title, call);
                }
            }
        }
    }

    private static void one(AnySites x, String title, String call) {
        Matcher m = CALL.matcher(call);
        if (!m.matches()) {
            throw new IllegalStateException(title + ": no call: " + call);
        }
        if (m.group(1).equals("text")) {
            typeAll(x, title, m.group(2));
        } else {
            due(title, call.strip(), answer(x, m.group(1), m.group(2)), Long.parseLong(m.group(3)));
        }
    }

    private static void typeAll(AnySites x, String title, String text) {
        x.clear();
        for (int i = 0; i < text.length(); i++) {
            due(title, "type(" + (int) text.charAt(i) + ")", x.type(text.charAt(i)), i + 1);
        }
    }

    static long answer(Object x, String name, String arguments) {
        String[] words = arguments.isBlank() ? new String[0] : arguments.split(",");
        Object[] values = new Object[words.length];
        Class<?>[] kinds = new Class<?>[words.length];
        for (int i = 0; i < words.length; i++) {
            values[i] = Integer.valueOf(words[i].strip());
            kinds[i] = int.class;
        }
        try {
            Method method = x.getClass().getDeclaredMethod(name, kinds);
            return ((Number) method.invoke(x, values)).longValue();
        } catch (ReflectiveOperationException e) {
            throw new IllegalStateException(name + "(" + arguments + ")", e);
        }
    }

    static void due(String title, String call, long got, long want) {
        calls++;
        if (got != want) {
            wrong++;
            System.out.println(title + ": " + call + " answered " + got + ", due is " + want);
        }
    }

    static void holds(String title, boolean truth) {
        due(title, "holds", truth ? 1 : 0, 1);
    }

    /** Every test's main ends with this. */
    static void finish() {
        System.out.println(calls + " answers, " + wrong + " wrong");
        System.exit(wrong == 0 && calls > 0 ? 0 : 1);
    }
}
