import java.io.IOException;
import java.nio.file.Files;
import java.nio.file.Path;
import java.util.regex.Matcher;
import java.util.regex.Pattern;

/** The answers that README.md tells behind the calls of its examples; each block begins with a new object. */
public final class ReadmeTest {
    private static final Pattern BLOCK = Pattern.compile("(?s)```java\n(.*?)```");
    private static final Pattern CALL = Pattern.compile("net\\.(\\w+)\\(([^()]*)\\); +// (-?\\d+)(:.*)?");
    private static final Pattern TYPED =
            Pattern.compile("for \\(char c : \"([^\"]*)\"\\.toCharArray\\(\\)\\) net\\.type\\(c\\);");

    public static void main(String[] args) throws IOException {
        int blocks = 0;
        for (Matcher block = BLOCK.matcher(Files.readString(Path.of("README.md"))); block.find();) {
            blocks++;
            AnySites net = new AnySites();
            for (String line : block.group(1).split("\n")) {
                if (!line.isBlank() && !line.equals("AnySites net = new AnySites();")) {
                    carryOut(net, line);
                }
            }
        }
        Runs.holds("README.md has examples", blocks > 0);
        Runs.finish();
    }

    private static void carryOut(AnySites net, String line) {
        Matcher typed = TYPED.matcher(line);
        if (typed.matches()) {
            for (char c : typed.group(1).toCharArray()) {
                Runs.holds("README.md: " + line, net.type(c) > 0);
            }
            return;
        }
        Matcher call = CALL.matcher(line);
        if (!call.matches()) {
            throw new IllegalStateException("README.md: a line without an answer: " + line);
        }
        Runs.due("README.md", line, Runs.answer(net, call.group(1), call.group(2)), Long.parseLong(call.group(3)));
    }
}
