import java.io.IOException;
import java.lang.reflect.Method;
import java.lang.reflect.Modifier;
import java.nio.file.Files;
import java.nio.file.Path;
import java.util.ArrayList;
import java.util.List;
import java.util.Set;
import java.util.TreeSet;
import java.util.regex.Matcher;
import java.util.regex.Pattern;

/**
 * What can be taken from the document as it stands, so that no slip in copying it can hide a fault: its five
 * examples, its public face, and the signatures of its promises.
 */
public final class DocumentTest {
    private static final Path DOCUMENT = Path.of("..", "shared", "DOC.md");
    private static final Pattern CALL = Pattern.compile("\\w+\\([^()]*\\)\\s*=\\s*-?\\d+");
    private static final Pattern EXAMPLE = Pattern.compile("(?ms)^(\\d)\\. ([^:]*):(.*?)\\.\\s*(?=^\\d\\. |\\z)");
    private static final Pattern METHOD = Pattern.compile("(int|long) (\\w+)\\(([^()]*)\\)");
    private static final Pattern PROMISE = Pattern.compile("(?m)^## Promise (\\d+): (.*)\\s+`(.*)`");

    public static void main(String[] args) throws IOException {
        String document = Files.readString(DOCUMENT);
        examples(between(document, "\nExamples:", "\nThe constructor and the methods follow"));
        face(between(document, "```java", "```"));
        promises(document);
        Runs.finish();
    }

    private static String between(String text, String begin, String end) {
        int from = text.indexOf(begin);
        int to = text.indexOf(end, from + begin.length());
        if (from < 0 || to < 0) {
            throw new IllegalStateException("the document has nothing between " + begin + " and " + end);
        }
        return text.substring(from + begin.length(), to);
    }

    private static void examples(String text) {
        int found = 0;
        int calls = 0;
        for (Matcher m = EXAMPLE.matcher(text); m.find();) {
            found++;
            Runs.due("the document's examples", "number", Integer.parseInt(m.group(1)), found);
            AnySites x = new AnySites();
            for (Matcher call = CALL.matcher(m.group(3)); call.find();) {
                calls++;
                Runs.go(x, "the document's example " + found + "," + m.group(2), call.group().replaceAll("\\s+", " "));
            }
        }
        Runs.due("the document's examples", "how many", found, 5);
        Runs.due("the document's examples", "calls", calls, CALL.matcher(text).results().count());
    }

    private static void face(String text) {
        Set<String> due = new TreeSet<>();
        for (Matcher m = METHOD.matcher(text); m.find();) {
            due.add(signature(m));
        }
        Set<String> found = new TreeSet<>();
        for (Method m : AnySites.class.getMethods()) {
            if (m.getDeclaringClass() == AnySites.class) {
                found.add(signature(m));
            }
        }
        Runs.holds("the document's face: " + due + ", the class: " + found, due.equals(found));
        Matcher constants = Pattern.compile("(\\w+) = (-\\d+)").matcher(text);
        int count = 0;
        while (constants.find()) {
            count++;
            Runs.due("the document's face", constants.group(1), constant(constants.group(1)),
                    Long.parseLong(constants.group(2)));
        }
        Runs.due("the document's face", "constants", AnySites.class.getFields().length, count);
    }

    private static int constant(String name) {
        try {
            return AnySites.class.getField(name).getInt(null);
        } catch (ReflectiveOperationException e) {
            throw new IllegalStateException(name, e);
        }
    }

    private static void promises(String document) {
        int number = 0;
        for (Matcher m = PROMISE.matcher(document); m.find();) {
            number++;
            Runs.due("the document's promises", m.group(2), Integer.parseInt(m.group(1)), number);
            Matcher method = METHOD.matcher(m.group(3));
            boolean kept = method.matches() ? isPublic(signature(method)) : m.group(3).equals("AnySites()");
            Runs.holds("promise " + number + ": " + m.group(3), kept);
        }
        Runs.due("the document's promises", "how many", number, 28);
    }

    private static boolean isPublic(String signature) {
        for (Method m : AnySites.class.getDeclaredMethods()) {
            if (Modifier.isPublic(m.getModifiers()) && signature(m).equals(signature)) {
                return true;
            }
        }
        return false;
    }

    private static String signature(Matcher m) {
        List<String> kinds = new ArrayList<>();
        for (String parameter : m.group(3).split(",")) {
            if (!parameter.isBlank()) {
                kinds.add(parameter.strip().split(" ")[0]);
            }
        }
        return m.group(1) + " " + m.group(2) + kinds;
    }

    private static String signature(Method m) {
        List<String> kinds = new ArrayList<>();
        for (Class<?> kind : m.getParameterTypes()) {
            kinds.add(kind.getName());
        }
        return m.getReturnType().getName() + " " + m.getName() + kinds;
    }
}
