import java.util.ArrayList;
import java.util.Comparator;
import java.util.List;
import java.util.Optional;
import java.util.regex.Matcher;
import java.util.regex.Pattern;
import java.util.stream.Collectors;
import java.util.stream.IntStream;

/**
 * The document once more, in the slowest and plainest words: every question about what would be is answered
 * by making that world and looking at it. ModelTest compares the class with it.
 */
final class Model {
    static final int NONE = -1;
    static final int BAD = -2;
    static final int NO = -3;
    static final int FULL = -4;

    private static final Pattern TEXT = Pattern.compile(
            " *(?:(?:[adxt] *\\d{1,3}|[smp] *\\d{1,3} +\\d{1,3}|[lo] *\\d{1,3} +\\d{1,3} +\\d{1,3}) *; *)+");

    private static final class Area {
        int want;
        int mood;
        int last = NONE;

        Area copy() {
            Area c = new Area();
            c.want = want;
            c.mood = mood;
            c.last = last;
            return c;
        }
    }

    private static final class Site {
        int at;
        int room;
        int step;
        int state;

        Site copy() {
            Site c = new Site();
            c.at = at;
            c.room = room;
            c.step = step;
            c.state = state;
            return c;
        }
    }

    private static final class Session {
        int area;
        int site;
        int weight;
        int left;

        Session copy() {
            Session c = new Session();
            c.area = area;
            c.site = site;
            c.weight = weight;
            c.left = left;
            return c;
        }
    }

    private static final class World {
        List<Area> areas = new ArrayList<>();
        List<Site> sites = new ArrayList<>();
        List<Session> sessions = new ArrayList<>();
        List<Integer> queue = new ArrayList<>();
        int[][] line = new int[8][8];
        Integer[][] ways;
        int time;
        int ended;
        int broken;
        int delayed;

        World copy() {
            World c = new World();
            areas.forEach(a -> c.areas.add(a.copy()));
            sites.forEach(s -> c.sites.add(s.copy()));
            sessions.forEach(s -> c.sessions.add(s.copy()));
            c.queue.addAll(queue);
            for (int a = 0; a < 8; a++) {
                c.line[a] = line[a].clone();
            }
            c.ways = ways;
            c.time = time;
            c.ended = ended;
            c.broken = broken;
            c.delayed = delayed;
            return c;
        }

        /** The distances from every area, by lengthening ways line by line until nothing is shorter. */
        Integer[][] ways() {
            if (ways != null) {
                return ways;
            }
            Integer[][] w = new Integer[8][8];
            for (int from = 0; from < areas.size(); from++) {
                w[from][from] = 0;
                for (boolean changed = true; changed;) {
                    changed = false;
                    for (int a = 0; a < 8; a++) {
                        for (int b = 0; b < 8; b++) {
                            if (w[from][a] != null && line[a][b] > 0
                                    && (w[from][b] == null || w[from][b] > w[from][a] + line[a][b])) {
                                w[from][b] = w[from][a] + line[a][b];
                                changed = true;
                            }
                        }
                    }
                }
            }
            ways = w;
            return w;
        }

        Optional<Integer> apparent(int a, int s) {
            Site site = sites.get(s);
            Integer way = ways()[a][site.at];
            if (site.state == 2 || way == null) {
                return Optional.empty();
            }
            return Optional.of(areas.get(a).mood == 1 ? way : way + 3 * site.step);
        }

        int catchOf(int a) {
            Area area = areas.get(a);
            if (area.mood == 2 && area.last != NONE && apparent(a, area.last).isPresent()) {
                return area.last;
            }
            return IntStream.range(0, sites.size()).boxed().filter(s -> apparent(a, s).isPresent())
                    .min(Comparator.<Integer>comparingInt(s -> apparent(a, s).get())
                            .thenComparingInt(s -> sites.get(s).step)
                            .thenComparingInt(s -> s))
                    .orElse(NONE);
        }

        boolean carried(Session x) {
            return catchOf(x.area) != x.site;
        }

        int load(int s) {
            int sum = 0;
            for (int a = 0; a < areas.size(); a++) {
                sum += catchOf(a) == s ? areas.get(a).want : 0;
            }
            for (Session x : sessions) {
                sum += x.site == s && carried(x) ? x.weight : 0;
            }
            return sum;
        }

        boolean overloaded(int s) {
            return sites.get(s).state != 2 && load(s) > sites.get(s).room;
        }

        boolean anyOverloaded() {
            return IntStream.range(0, sites.size()).anyMatch(this::overloaded);
        }

        World without(List<Integer> gone) {
            World c = copy();
            gone.forEach(s -> c.sites.get(s).state = 2);
            return c;
        }

        List<Integer> notOff() {
            return IntStream.range(0, sites.size()).boxed().filter(s -> sites.get(s).state != 2)
                    .collect(Collectors.toList());
        }

        void turnOff(int s) {
            sites.get(s).state = 2;
            sites.get(s).step = 0;
            queue.remove(Integer.valueOf(s));
        }

        void tick() {
            for (Session x : List.copyOf(sessions)) {
                x.left--;
                if (x.left == 0) {
                    sessions.remove(x);
                    ended++;
                } else if (sites.get(x.site).state == 2) {
                    broken++;
                    x.site = catchOf(x.area);
                    if (x.site == NONE) {
                        sessions.remove(x);
                        ended++;
                    }
                }
            }
            if (!queue.isEmpty()) {
                drainOne(queue.get(0));
            }
            int[] present = IntStream.range(0, areas.size()).map(this::catchOf).toArray();
            for (int a = 0; a < present.length; a++) {
                areas.get(a).last = present[a];
            }
            time++;
        }

        private void drainOne(int s) {
            World then = copy();
            boolean noCatch = IntStream.range(0, areas.size()).noneMatch(a -> catchOf(a) == s);
            if (noCatch || sites.get(s).step == 4) {
                then.turnOff(s);
            } else {
                then.sites.get(s).step++;
            }
            for (int t = 0; t < sites.size(); t++) {
                if (t != s && then.overloaded(t) && !overloaded(t)) {
                    delayed++;
                    return;
                }
            }
            sites = then.sites;
            queue = then.queue;
        }

        /** The best plan, or null: all plans are tried in lexicographic order. */
        int[] bestPlan() {
            int[] best = null;
            int n = sites.size();
            List<Integer> on = notOff();
            for (int code = 0; code < Math.pow(5, on.size()); code++) {
                World w = copy();
                int rest = code;
                for (int i = on.size() - 1; i >= 0; i--) {
                    w.sites.get(on.get(i)).step = rest % 5;
                    rest /= 5;
                }
                int[] plan = IntStream.range(0, n).map(s -> w.sites.get(s).step).toArray();
                int sum = on.stream().mapToInt(s -> plan[s]).sum();
                if ((best == null || sum < IntStream.of(best).sum()) && !w.anyOverloaded()) {
                    best = plan;
                }
            }
            return best;
        }

        List<Integer> bestOrder(List<Integer> before, List<Integer> rest) {
            if (!before.isEmpty() && without(before).anyOverloaded()) {
                return null;
            }
            if (rest.isEmpty()) {
                return before;
            }
            for (Integer s : rest) {
                List<Integer> then = new ArrayList<>(before);
                then.add(s);
                List<Integer> later = new ArrayList<>(rest);
                later.remove(s);
                List<Integer> found = bestOrder(then, later);
                if (found != null) {
                    return found;
                }
            }
            return null;
        }
    }

    private World world = new World();
    private final List<World> kept = new ArrayList<>();
    private final StringBuilder text = new StringBuilder();
    private final int[] errors = new int[3];

    private int told(int answer, boolean counts) {
        if (counts && answer <= BAD && answer >= FULL) {
            errors[BAD - answer]++;
        }
        return answer;
    }

    private boolean isArea(int a) {
        return a >= 0 && a < world.areas.size();
    }

    private boolean isSite(int s) {
        return s >= 0 && s < world.sites.size();
    }

    private static boolean in(int v, int least, int most) {
        return least <= v && v <= most;
    }

    /** Any call, by its name. */
    long call(String name, int... v) {
        switch (name) {
            case "digest":
                return digest();
            case "reads":
                return reads();
            case "clear":
                int had = text.length();
                text.setLength(0);
                return had;
            case "type":
                return told(type(v[0]), true);
            case "back":
                if (kept.isEmpty()) {
                    return told(NO, true);
                }
                world = kept.remove(kept.size() - 1);
                return kept.size();
            default:
                break;
        }
        if (isAct(name)) {
            World before = world.copy();
            int answer = act(name, v);
            if (answer >= 0) {
                keep(before);
            }
            return told(answer, true);
        }
        return told(question(name, v), true);
    }

    private void keep(World before) {
        kept.add(before);
        if (kept.size() > 5) {
            kept.remove(0);
        }
    }

    private static boolean isAct(String name) {
        return List.of("area", "wants", "line", "mood", "site", "rooms", "steps", "drains", "cuts", "opens", "ends",
                "ticks", "lays").contains(name);
    }

    private int act(String name, int... v) {
        switch (name) {
            case "area":
                return area(v[0]);
            case "wants":
                if (!isArea(v[0]) || !in(v[1], 0, 99)) {
                    return BAD;
                }
                int want = world.areas.get(v[0]).want;
                world.areas.get(v[0]).want = v[1];
                return want;
            case "line":
                return line(v[0], v[1], v[2]);
            case "mood":
                return mood(v[0], v[1]);
            case "site":
                return site(v[0], v[1]);
            case "rooms":
                if (!isSite(v[0]) || !in(v[1], 0, 999)) {
                    return BAD;
                }
                int room = world.sites.get(v[0]).room;
                world.sites.get(v[0]).room = v[1];
                return room;
            case "steps":
                return steps(v[0], v[1]);
            case "drains":
                if (!isSite(v[0])) {
                    return BAD;
                }
                if (world.sites.get(v[0]).state != 0) {
                    return NO;
                }
                world.sites.get(v[0]).state = 1;
                world.queue.add(v[0]);
                return world.queue.size();
            case "cuts":
                return cuts(v[0]);
            case "opens":
                return opens(v[0], v[1], v[2]);
            case "ends":
                if (!in(v[0], 0, world.sessions.size() - 1)) {
                    return BAD;
                }
                world.sessions.remove(v[0]);
                world.ended++;
                return world.sessions.size();
            case "ticks":
                return ticks(v[0]);
            case "lays":
                return lays();
            default:
                throw new IllegalStateException(name);
        }
    }

    private int area(int want) {
        if (!in(want, 0, 99)) {
            return BAD;
        }
        if (world.areas.size() == 8) {
            return FULL;
        }
        Area a = new Area();
        a.want = want;
        world.areas.add(a);
        world.ways = null;
        return world.areas.size() - 1;
    }

    private int line(int a, int b, int n) {
        if (!isArea(a) || !isArea(b) || a == b || !in(n, 0, 9)) {
            return BAD;
        }
        int old = world.line[a][b];
        world.line[a][b] = n;
        world.line[b][a] = n;
        world.ways = null;
        return old;
    }

    private int mood(int a, int k) {
        if (!isArea(a) || !in(k, 0, 2)) {
            return BAD;
        }
        Area area = world.areas.get(a);
        int old = area.mood;
        if (k == 2 && old != 2) {
            area.last = world.catchOf(a);
        }
        area.mood = k;
        return old;
    }

    private int site(int a, int room) {
        if (!isArea(a) || !in(room, 0, 999)) {
            return BAD;
        }
        if (world.sites.size() == 5) {
            return FULL;
        }
        Site s = new Site();
        s.at = a;
        s.room = room;
        world.sites.add(s);
        return world.sites.size() - 1;
    }

    private int steps(int s, int k) {
        if (!isSite(s) || !in(k, 0, 4)) {
            return BAD;
        }
        if (world.sites.get(s).state != 0) {
            return NO;
        }
        int old = world.sites.get(s).step;
        world.sites.get(s).step = k;
        return old;
    }

    private int cuts(int s) {
        if (!isSite(s)) {
            return BAD;
        }
        if (world.sites.get(s).state == 2) {
            world.sites.get(s).state = 0;
            world.sites.get(s).step = 0;
        } else {
            world.turnOff(s);
        }
        return world.sites.get(s).state;
    }

    private int opens(int a, int w, int n) {
        if (!isArea(a) || !in(w, 1, 9) || !in(n, 1, 30)) {
            return BAD;
        }
        if (world.catchOf(a) == NONE) {
            return NO;
        }
        if (world.sessions.size() == 12) {
            return FULL;
        }
        Session x = new Session();
        x.area = a;
        x.site = world.catchOf(a);
        x.weight = w;
        x.left = n;
        world.sessions.add(x);
        return world.sessions.size();
    }

    private int ticks(int n) {
        if (!in(n, 1, 30)) {
            return BAD;
        }
        int before = world.ended;
        for (int i = 0; i < n; i++) {
            world.tick();
        }
        return world.ended - before;
    }

    private int lays() {
        int[] plan = world.bestPlan();
        if (plan == null) {
            return NO;
        }
        int sum = 0;
        for (int s : world.notOff()) {
            world.sites.get(s).step = plan[s];
            sum += plan[s];
        }
        return sum;
    }

    private int question(String name, int... v) {
        switch (name) {
            case "far":
                return isArea(v[0]) && isArea(v[1]) ? orNone(world.ways()[v[0]][v[1]]) : BAD;
            case "of":
                return isArea(v[0]) && in(v[1], 0, 5) ? of(v[0], v[1]) : BAD;
            case "siteOf":
                return isSite(v[0]) && in(v[1], 0, 9) ? siteOf(v[0], v[1]) : BAD;
            case "seems":
                return isArea(v[0]) && isSite(v[1]) ? world.apparent(v[0], v[1]).orElse(NONE) : BAD;
            case "session":
                if (v[0] < 0 || !in(v[1], 0, 4)) {
                    return BAD;
                }
                return v[0] < world.sessions.size() ? session(v[0], v[1]) : NONE;
            case "plan":
                if (v[0] != NONE && !isSite(v[0])) {
                    return BAD;
                }
                int[] plan = world.bestPlan();
                return plan == null ? NONE : v[0] == NONE ? IntStream.of(plan).sum() : plan[v[0]];
            case "order":
                return order(v[0], v[1]);
            case "worst":
                return worst(v[0], v[1]);
            case "told":
                return in(v[0], 0, 12) ? counts(v[0]) : BAD;
            default:
                throw new IllegalStateException(name);
        }
    }

    private static int orNone(Integer value) {
        return value == null ? NONE : value;
    }

    private int of(int a, int what) {
        Area area = world.areas.get(a);
        long reach = IntStream.range(0, world.sites.size()).filter(s -> world.apparent(a, s).isPresent()).count();
        long own = world.sessions.stream().filter(x -> x.area == a).count();
        return List.of(area.want, area.mood, world.catchOf(a), area.last, (int) reach, (int) own).get(what);
    }

    private int siteOf(int s, int what) {
        Site site = world.sites.get(s);
        int caught = IntStream.range(0, world.areas.size()).filter(a -> world.catchOf(a) == s).map(a -> 1 << a).sum();
        long there = world.sessions.stream().filter(x -> x.site == s).count();
        boolean safe = site.state != 2 && !world.without(List.of(s)).anyOverloaded();
        return List.of(site.at, site.room, site.step, site.state, world.load(s), world.overloaded(s) ? 1 : 0, caught,
                (int) there, world.queue.indexOf(s), safe ? 1 : 0).get(what);
    }

    private int session(int i, int what) {
        Session x = world.sessions.get(i);
        return List.of(x.area, x.site, x.weight, x.left, world.carried(x) ? 1 : 0).get(what);
    }

    private int order(int set, int i) {
        List<Integer> members = IntStream.range(0, 32).boxed().filter(s -> (set >>> s & 1) == 1)
                .collect(Collectors.toList());
        if (members.isEmpty() || !members.stream().allMatch(this::isSite) || i < 0) {
            return BAD;
        }
        if (!world.notOff().containsAll(members)) {
            return NO;
        }
        List<Integer> best = world.bestOrder(List.of(), members);
        return best == null || i >= best.size() ? NONE : best.get(i);
    }

    private int worst(int n, int what) {
        if (!in(n, 1, 2) || !in(what, 0, 1)) {
            return BAD;
        }
        List<Integer> on = world.notOff();
        int most = NONE;
        int worst = NONE;
        for (int set = 0; set < 32; set++) {
            int mask = set;
            List<Integer> members = IntStream.range(0, 5).boxed().filter(s -> (mask >> s & 1) == 1)
                    .collect(Collectors.toList());
            if (members.size() != n || !on.containsAll(members)) {
                continue;
            }
            World w = world.without(members);
            int sum = w.notOff().stream().mapToInt(s -> Math.max(0, w.load(s) - w.sites.get(s).room)).sum();
            if (sum > most) {
                most = sum;
                worst = set;
            }
        }
        return what == 0 ? most : worst;
    }

    private int type(int c) {
        if (!in(c, 0, 127)) {
            return BAD;
        }
        if (text.length() == 120) {
            return FULL;
        }
        text.append((char) c);
        return text.length();
    }

    private long reads() {
        int fault = fault();
        if (fault != NONE) {
            return -10 - fault;
        }
        World before = world.copy();
        String[] orders = text.toString().split(";");
        int n = 0;
        for (String order : orders) {
            if (order.isBlank()) {
                continue;
            }
            if (obey(order.strip()) < 0) {
                world = before;
                return -1000 - n;
            }
            n++;
        }
        keep(before);
        return n;
    }

    private int obey(String order) {
        String[] words = order.substring(1).strip().split(" +");
        int[] v = new int[words.length];
        for (int i = 0; i < v.length; i++) {
            v[i] = Integer.parseInt(words[i]);
        }
        String letters = "alsmpodxt";
        String[] names = {"area", "line", "site", "mood", "steps", "opens", "drains", "cuts", "ticks"};
        return act(names[letters.indexOf(order.charAt(0))], v);
    }

    /** The fault is the length of the longest beginning that some text could begin with. */
    private int fault() {
        if (TEXT.matcher(text).matches()) {
            return NONE;
        }
        for (int n = 1; n <= text.length(); n++) {
            Matcher m = TEXT.matcher(text.substring(0, n));
            if (!m.matches() && !m.hitEnd()) {
                return n - 1;
            }
        }
        return text.length();
    }

    private int counts(int what) {
        return List.of(errors[0], errors[1], errors[2], text.length(), world.areas.size(), world.sites.size(),
                world.sessions.size(), world.time, world.ended, world.broken, world.delayed, world.queue.size(),
                kept.size()).get(what);
    }

    private long digest() {
        List<Integer> values = new ArrayList<>();
        for (int what = 0; what <= 12; what++) {
            values.add(counts(what));
        }
        for (int a = 0; a < world.areas.size(); a++) {
            for (int what = 0; what <= 5; what++) {
                values.add(of(a, what));
            }
        }
        for (int b = 0; b < world.areas.size(); b++) {
            for (int a = 0; a < b; a++) {
                values.add(world.line[a][b]);
                values.add(orNone(world.ways()[a][b]));
            }
        }
        for (int s = 0; s < world.sites.size(); s++) {
            for (int what = 0; what <= 9; what++) {
                values.add(siteOf(s, what));
            }
        }
        for (int i = 0; i < world.sessions.size(); i++) {
            for (int what = 0; what <= 4; what++) {
                values.add(session(i, what));
            }
        }
        long h = 2333;
        for (int v : values) {
            h = 31 * h + v;
        }
        return h;
    }
}
