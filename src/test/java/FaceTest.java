import java.io.IOException;
import java.lang.reflect.Constructor;
import java.lang.reflect.Field;
import java.lang.reflect.Method;
import java.lang.reflect.Modifier;
import java.nio.file.Files;
import java.nio.file.Path;
import java.util.Arrays;
import java.util.Set;
import java.util.TreeSet;
import java.util.regex.Matcher;
import java.util.regex.Pattern;

/** The public face of the document, and the rules of LANGUAGE.md that can be seen from outside. */
public final class FaceTest {
    private static final Set<String> FACE = new TreeSet<>(Arrays.asList(
            "int area(int)", "int wants(int, int)", "int line(int, int, int)", "int mood(int, int)", "int site(int, int)",
            "int rooms(int, int)", "int steps(int, int)", "int drains(int)", "int cuts(int)", "int far(int, int)",
            "int of(int, int)", "int siteOf(int, int)", "int seems(int, int)", "int opens(int, int, int)",
            "int session(int, int)", "int ends(int)", "int ticks(int)", "int plan(int)", "int lays()",
            "int order(int, int)", "int worst(int, int)", "int type(int)", "int clear()", "int reads()", "int back()",
            "int told(int)", "long digest()"));
    private static final String[] FORBIDDEN = {"\\bthrow\\b", "\\bthrows\\b", "\\btry\\b", "\\bcatch\\b", "\\bfinally\\b",
        "\\bsynchronized\\b", "\\bassert\\b", "\\bimport\\b", "\\bpackage\\b", "->", "::", "\\bprotected\\b",
        "Exact\\b", "\\bSystem\\.(?!arraycopy)", "\\bObject\\b", "\\bequals\\b", "\\bhashCode\\b", "\\btoString\\b",
        "static \\{", "while \\(true\\)", "\\bjava\\."};

    /** What the class uses of the library; LANGUAGE.md allows more. */
    private static final Set<String> LIBRARY = Set.of("Math.min", "Math.max", "Integer.bitCount", "System.arraycopy");
    private static final Set<String> OWN = Set.of("Outlook");

    public static void main(String[] args) throws IOException {
        constants();
        face();
        classesInside();
        if (args.length > 0) {
            source(Files.readString(Path.of(args[0])));
        }
        Runs.finish();
    }

    private static void constants() {
        Runs.due("face", "NONE", AnySites.NONE, -1);
        Runs.due("face", "BAD", AnySites.BAD, -2);
        Runs.due("face", "NO", AnySites.NO, -3);
        Runs.due("face", "FULL", AnySites.FULL, -4);
        Runs.holds("face: public and final", AnySites.class.getModifiers() == (Modifier.PUBLIC | Modifier.FINAL));
    }

    private static void face() {
        Set<String> found = new TreeSet<>();
        Set<String> names = new TreeSet<>();
        for (Method m : AnySites.class.getDeclaredMethods()) {
            if (Modifier.isPublic(m.getModifiers())) {
                found.add(signature(m));
                names.add(m.getName());
                Runs.holds("face: no static method: " + m, !Modifier.isStatic(m.getModifiers()));
            }
        }
        Runs.holds("face: the methods of the document and no other: " + found, found.equals(FACE));
        for (Method m : AnySites.class.getDeclaredMethods()) {
            boolean own = Modifier.isPrivate(m.getModifiers()) && !names.contains(m.getName());
            Runs.holds("rule 1: " + m, Modifier.isPublic(m.getModifiers()) || own);
        }
        for (Field f : AnySites.class.getDeclaredFields()) {
            boolean constant = Set.of("NONE", "BAD", "NO", "FULL").contains(f.getName());
            Runs.holds("rule 1: " + f, constant ? Modifier.isPublic(f.getModifiers()) : Modifier.isPrivate(f.getModifiers()));
        }
        Constructor<?>[] constructors = AnySites.class.getDeclaredConstructors();
        Runs.due("face", "constructors", constructors.length, 1);
        Runs.holds("face: a public constructor", Modifier.isPublic(constructors[0].getModifiers()));
        Runs.due("face", "parameters of the constructor", constructors[0].getParameterCount(), 0);
    }

    private static String signature(Method m) {
        StringBuilder s = new StringBuilder(m.getReturnType().getName()).append(' ').append(m.getName()).append('(');
        for (int i = 0; i < m.getParameterCount(); i++) {
            s.append(i > 0 ? ", " : "").append(m.getParameterTypes()[i].getName());
        }
        return s.append(')').toString();
    }

    private static void classesInside() {
        Class<?>[] inside = AnySites.class.getDeclaredClasses();
        Runs.holds("rule 11: at most twelve classes", inside.length + 1 <= 12);
        members(AnySites.class);
        for (Class<?> c : inside) {
            Runs.holds("rule 1: " + c, Modifier.isStatic(c.getModifiers()) && !Modifier.isPublic(c.getModifiers()));
            members(c);
            for (Method m : c.getDeclaredMethods()) {
                boolean borrowed = FACE.stream().anyMatch(s -> s.contains(" " + m.getName() + "("));
                Runs.holds("rule 1, inside too: " + m, !borrowed);
            }
        }
    }

    private static void members(Class<?> c) {
        int fields = 0;
        for (Field f : c.getDeclaredFields()) {
            boolean isStatic = Modifier.isStatic(f.getModifiers());
            fields += isStatic ? 0 : 1;
            Runs.holds("rule 5: " + f, !isStatic || Modifier.isFinal(f.getModifiers()));
        }
        Runs.holds("rule 11: at most twenty fields: " + c, fields <= 20);
        for (Method m : c.getDeclaredMethods()) {
            Runs.holds("rule 11: at most seven parameters: " + m, m.getParameterCount() <= 7);
        }
    }

    private static void source(String text) {
        String code = text.replaceAll("(?s)/\\*.*?\\*/", "").replaceAll("//[^\n]*", "");
        for (String forbidden : FORBIDDEN) {
            Matcher m = Pattern.compile(forbidden).matcher(code);
            Runs.holds("rules 4 and 6: " + forbidden, !m.find());
        }
        library(code);
        objects(code);
        Runs.holds("signs 1 to 127 alone", text.chars().allMatch(c -> c > 0 && c < 128));
        int begun = -1;
        String[] lines = text.split("\n");
        for (int i = 0; i < lines.length; i++) {
            if (lines[i].matches(" +[\\w\\[\\] ]+\\([^;]*\\) \\{") && !lines[i].matches(" +(if|for|while|switch|else|\\}).*")) {
                begun = i;
            } else if (begun >= 0 && lines[i].equals(lines[begun].replaceAll("\\S.*", "") + "}")) {
                Runs.holds("rule 11: some sixty lines: " + lines[begun], i - begun <= 60);
                begun = -1;
            }
        }
    }

    private static void library(String code) {
        for (Matcher m = Pattern.compile("\\b([A-Z]\\w*)\\.(\\w+)\\(").matcher(code); m.find();) {
            String name = m.group(1) + "." + m.group(2);
            Runs.holds("rule 4: " + name, LIBRARY.contains(name) || OWN.contains(m.group(1)));
        }
    }

    /** All rows are made with the object, so that no number of calls fills the room: a new one stands nowhere else. */
    private static void objects(String code) {
        for (Matcher m = Pattern.compile("(?m)^(.*)\\bnew \\w+.*$").matcher(code); m.find();) {
            boolean field = m.group(1).matches("        (private )?final [\\w\\[\\]]+ \\w+ = ");
            boolean inConstructor = m.group(1).matches("        \\w+ = |                ring\\[i\\] = ");
            Runs.holds("rule 12: " + m.group().strip(), field || inConstructor);
        }
    }
}
