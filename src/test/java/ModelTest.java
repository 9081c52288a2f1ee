import java.util.Random;

/**
 * Compares the class with the model in drawn runs of calls; the seeds are fixed, so every run is the same again.
 * The runs are drawn so that sites are often near their capacities, for there the plans differ.
 * A first argument that is a number sets how many runs are made.
 */
public final class ModelTest {
    private static final int CALLS = 300;
    private static final int NONE = -1;
    private static final String[] ACTS = {"area", "wants", "line", "line", "mood", "site", "rooms", "rooms", "steps",
        "steps", "drains", "cuts", "opens", "opens", "ends", "ticks", "ticks", "ticks", "lays", "back", "text"};
    private static final String[] QUESTIONS = {"far", "of", "siteOf", "seems", "session", "order", "order", "worst",
        "told"};
    private static final int[] ODD = {-2, -3, 5, 8, 31, 32, 99, 100, 127, 128, 999, 1000, Integer.MAX_VALUE,
        Integer.MIN_VALUE, 1 << 30, Integer.MIN_VALUE + 1};

    private final Random random;
    private final AnySites mine = new AnySites();
    private final Model model = new Model();
    private final String title;
    private final int rooms;
    private final boolean clearsText;
    private int calls;

    private ModelTest(int seed) {
        random = new Random(seed);
        title = "drawn run " + seed;
        rooms = new int[] {40, 150, 400, 999}[seed % 4];
        // In some runs the buffer becomes full.
        clearsText = seed % 5 != 0;
    }

    public static void main(String[] args) {
        int runs = args.length > 0 && args[0].matches("\\d+") ? Integer.parseInt(args[0]) : 80;
        for (int seed = 0; seed < runs; seed++) {
            new ModelTest(seed).play();
        }
        Runs.finish();
    }

    private void play() {
        int areas = random.nextInt(9);
        for (int i = 0; i < areas; i++) {
            call("area", random.nextInt(100));
        }
        for (int i = 0; i < 2 * areas; i++) {
            call("line", random.nextInt(areas), random.nextInt(areas), random.nextInt(10));
        }
        for (int i = random.nextInt(6); i > 0 && areas > 0; i--) {
            call("site", random.nextInt(areas), random.nextInt(rooms + 1));
        }
        while (calls < CALLS) {
            int kind = random.nextInt(100);
            if (kind < 2) {
                call("plan", random.nextInt(7) - 1);
            } else if (kind < 12) {
                call("digest");
            } else if (kind < 50) {
                draw(QUESTIONS[random.nextInt(QUESTIONS.length)]);
            } else {
                draw(ACTS[random.nextInt(ACTS.length)]);
            }
        }
        call("digest");
    }

    private void draw(String name) {
        switch (name) {
            case "text":
                text();
                break;
            case "area":
            case "type":
                call(name, number(100));
                break;
            case "drains":
            case "cuts":
                call(name, number(5));
                break;
            case "ends":
            case "told":
                call(name, number(14));
                break;
            case "ticks":
                call(name, random.nextInt(4) == 0 ? number(32) : 1 + random.nextInt(3));
                break;
            case "lays":
                if (random.nextInt(3) == 0) {
                    call(name);
                }
                break;
            case "back":
                for (int i = random.nextInt(7); i >= 0; i--) {
                    call(name);
                }
                call("plan", NONE);
                break;
            case "line":
                call(name, number(8), number(8), number(11));
                break;
            case "opens":
                for (int i = random.nextInt(4); i >= 0; i--) {
                    call(name, number(8), number(11), number(32));
                }
                break;
            case "order":
                call(name, number(32), number(5));
                break;
            case "worst":
                call(name, number(4), number(3));
                break;
            case "rooms":
            case "site":
                call(name, number(5), number(rooms + 1));
                break;
            case "wants":
                call(name, number(8), number(100));
                break;
            case "mood":
                call(name, number(8), number(4));
                break;
            case "siteOf":
                call(name, number(5), number(11));
                break;
            case "session":
                call(name, number(13), number(6));
                break;
            default:
                call(name, number(8), number(7));
                break;
        }
    }

    private int number(int limit) {
        return random.nextInt(40) == 0 ? ODD[random.nextInt(ODD.length)] : random.nextInt(limit);
    }

    private void text() {
        if (clearsText && random.nextInt(5) > 0) {
            call("clear");
        }
        StringBuilder text = new StringBuilder();
        for (int i = random.nextInt(5); i >= 0; i--) {
            text.append(order());
        }
        if (random.nextInt(3) == 0 && text.length() > 0) {
            String signs = "0129; alsmpodxtA\n\0q";
            text.setCharAt(random.nextInt(text.length()), signs.charAt(random.nextInt(signs.length())));
        }
        if (random.nextInt(4) == 0) {
            text.setLength(random.nextInt(text.length() + 1));
        }
        for (int i = 0; i < text.length(); i++) {
            call("type", (int) text.charAt(i));
        }
        call("reads");
    }

    private String order() {
        char letter = "alsmpodxt".charAt(random.nextInt(9));
        int numbers = new int[] {1, 3, 2, 2, 2, 3, 1, 1, 1}["alsmpodxt".indexOf(letter)];
        StringBuilder order = new StringBuilder(spaces(0)).append(letter);
        for (int i = 0; i < numbers; i++) {
            int limit = letter == 's' && i == 1 ? rooms : letter == 'a' ? 100 : 6;
            order.append(spaces(i > 0 && random.nextInt(60) > 0 ? 1 : 0)).append(random.nextInt(limit));
        }
        return order.append(spaces(0)).append(';').toString();
    }

    private String spaces(int least) {
        return " ".repeat(least + (random.nextInt(5) == 0 ? random.nextInt(3) : 0));
    }

    private void call(String name, int... values) {
        StringBuilder arguments = new StringBuilder();
        for (int v : values) {
            arguments.append(arguments.length() > 0 ? ", " : "").append(v);
        }
        calls++;
        long got = Runs.answer(mine, name, arguments.toString());
        Runs.due(title + ", call " + calls, name + "(" + arguments + ")", got, model.call(name, values));
    }
}
