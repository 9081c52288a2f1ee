/**
 * Anycast routing: areas, the sites that serve them, sessions that stay where they began,
 * and plans that keep every site within its capacity. The document's promises say what each
 * public method answers.
 */
public final class AnySites {
    public static final int NONE = -1, BAD = -2, NO = -3, FULL = -4;

    private static final int MOST_AREAS = 8;
    private static final int MOST_SITES = 5;
    private static final int MOST_SESSIONS = 12;
    private static final int MOST_KEPT = 5;
    private static final int MOST_BYTES = 120;

    private static final int MOST_DEMAND = 99;
    private static final int MOST_LENGTH = 9;
    private static final int MOST_ROOM = 999;
    private static final int MOST_STEP = 4;
    private static final int MOST_WEIGHT = 9;
    private static final int MOST_TICKS = 30;
    private static final int MOST_BYTE = 127;
    private static final int MOST_DIGITS = 3;
    private static final int MOST_NUMBERS = 3;

    private static final int STEP_LENGTH = 3;

    private static final int PLAIN = 0;
    private static final int DEAF = 1;
    private static final int LOYAL = 2;

    private static final int ON = 0;
    private static final int DRAINING = 1;
    private static final int OFF = 2;

    private static final int AREA_VALUES = 6;
    private static final int SITE_VALUES = 10;
    private static final int SESSION_VALUES = 5;
    private static final int COUNTS = 13;

    private static final int FAULT_BASE = -10;
    private static final int FAILED_BASE = -1000;
    private static final long DIGEST_START = 2333L;
    private static final long DIGEST_FACTOR = 31L;

    private final State now;
    private final History history;
    private final Outlook outlook;
    private final Planner planner;
    private final Failures failures;
    private final Acts acts;
    private final Script script;
    private int bads;
    private int nos;
    private int fulls;

    public AnySites() {
        now = new State();
        history = new History();
        outlook = new Outlook(now);
        planner = new Planner(now, outlook);
        failures = new Failures(now, outlook);
        acts = new Acts(now, outlook, planner);
        script = new Script();
    }

    // ---- areas, lines, sites

    public int area(int want) {
        mark();
        return settled(acts.addArea(want));
    }

    public int wants(int a, int w) {
        mark();
        return settled(acts.setDemand(a, w));
    }

    public int line(int a, int b, int n) {
        mark();
        return settled(acts.setLine(a, b, n));
    }

    public int mood(int a, int k) {
        mark();
        return settled(acts.setMood(a, k));
    }

    public int site(int a, int room) {
        mark();
        return settled(acts.addSite(a, room));
    }

    public int rooms(int s, int r) {
        mark();
        return settled(acts.setRoom(s, r));
    }

    public int steps(int s, int k) {
        mark();
        return settled(acts.setStep(s, k));
    }

    public int drains(int s) {
        mark();
        return settled(acts.startDrain(s));
    }

    public int cuts(int s) {
        mark();
        return settled(acts.switchSite(s));
    }

    // ---- told

    public int far(int a, int b) {
        if (!now.areas.has(a) || !now.areas.has(b)) {
            return counted(BAD);
        }
        return now.areas.distance(a, b);
    }

    public int of(int a, int what) {
        if (!now.areas.has(a) || !within(what, 0, AREA_VALUES - 1)) {
            return counted(BAD);
        }
        return areaValue(a, what);
    }

    public int siteOf(int s, int what) {
        if (!now.sites.has(s) || !within(what, 0, SITE_VALUES - 1)) {
            return counted(BAD);
        }
        return siteValue(s, what);
    }

    public int seems(int a, int s) {
        if (!now.areas.has(a) || !now.sites.has(s)) {
            return counted(BAD);
        }
        return outlook.presentApparent(a, s);
    }

    // ---- sessions and time

    public int opens(int a, int w, int n) {
        mark();
        return settled(acts.openSession(a, w, n));
    }

    public int session(int i, int what) {
        if (i < 0 || !within(what, 0, SESSION_VALUES - 1)) {
            return counted(BAD);
        }
        return now.sessions.has(i) ? sessionValue(i, what) : NONE;
    }

    public int ends(int i) {
        mark();
        return settled(acts.endSession(i));
    }

    public int ticks(int n) {
        mark();
        return settled(acts.passTicks(n));
    }

    // ---- plans

    public int plan(int s) {
        if (s != NONE && !now.sites.has(s)) {
            return counted(BAD);
        }
        int sum = planner.bestSum();
        return sum == NONE || s == NONE ? sum : planner.stepOf(s);
    }

    public int lays() {
        mark();
        return settled(acts.layPlan());
    }

    public int order(int set, int i) {
        if (set <= 0 || (set >> now.sites.count) != 0 || i < 0) {
            return counted(BAD);
        }
        if ((set & ~now.sites.notOff()) != 0) {
            return counted(NO);
        }
        return failures.withdrawn(set, i);
    }

    public int worst(int n, int what) {
        if (!within(n, 1, 2) || !within(what, 0, 1)) {
            return counted(BAD);
        }
        int set = failures.worstSet(n);
        return set == NONE || what == 1 ? set : failures.excess(set);
    }

    // ---- texts

    public int type(int c) {
        if (!within(c, 0, MOST_BYTE)) {
            return counted(BAD);
        }
        return counted(script.append(c));
    }

    public int clear() {
        return script.emptied();
    }

    public int reads() {
        int fault = script.parse();
        if (fault != NONE) {
            return FAULT_BASE - fault;
        }
        mark();
        for (int i = 0; i < script.orders; i++) {
            int answer = acts.carryOut(script.letter(i), script.number(i, 0), script.number(i, 1), script.number(i, 2));
            if (answer < 0) {
                history.restoreMarked(now);
                return FAILED_BASE - i;
            }
        }
        return settled(script.orders);
    }

    public int back() {
        if (history.kept == 0) {
            return counted(NO);
        }
        history.restoreLatest(now);
        planner.forget();
        return history.kept;
    }

    public int told(int what) {
        return within(what, 0, COUNTS - 1) ? countValue(what) : counted(BAD);
    }

    public long digest() {
        long h = DIGEST_START;
        for (int what = 0; what < COUNTS; what++) {
            h = mixed(h, countValue(what));
        }
        h = digestOfAreas(h);
        for (int s = 0; s < now.sites.count; s++) {
            for (int what = 0; what < SITE_VALUES; what++) {
                h = mixed(h, siteValue(s, what));
            }
        }
        for (int i = 0; i < now.sessions.count; i++) {
            for (int what = 0; what < SESSION_VALUES; what++) {
                h = mixed(h, sessionValue(i, what));
            }
        }
        return h;
    }

    // ---- helpers of the public methods

    private long digestOfAreas(long start) {
        long h = start;
        for (int a = 0; a < now.areas.count; a++) {
            for (int what = 0; what < AREA_VALUES; what++) {
                h = mixed(h, areaValue(a, what));
            }
        }
        for (int b = 0; b < now.areas.count; b++) {
            for (int a = 0; a < b; a++) {
                h = mixed(h, now.areas.lineLength(a, b));
                h = mixed(h, now.areas.distance(a, b));
            }
        }
        return h;
    }

    private static long mixed(long h, int v) {
        return DIGEST_FACTOR * h + v;
    }

    private int areaValue(int a, int what) {
        switch (what) {
            case 0:
                return now.areas.demand[a];
            case 1:
                return now.areas.moods[a];
            case 2:
                return outlook.presentCatch(a);
            case 3:
                return now.areas.last[a];
            case 4:
                return outlook.sitesInReach(a);
            default:
                return now.sessions.countOfArea(a);
        }
    }

    private int siteValue(int s, int what) {
        switch (what) {
            case 0:
                return now.sites.home[s];
            case 1:
                return now.sites.room[s];
            case 2:
                return now.sites.step[s];
            case 3:
                return now.sites.mode[s];
            case 4:
                outlook.lookAtPresent();
                return outlook.loads[s];
            case 5:
                return outlook.lookAtPresent() >> s & 1;
            case 6:
                outlook.lookAtPresent();
                return outlook.caughtBy(s);
            case 7:
                return now.sessions.countAtSite(s);
            case 8:
                return now.sites.placeInQueue(s);
            default:
                return failures.isSafeToGo(s) ? 1 : 0;
        }
    }

    private int sessionValue(int i, int what) {
        switch (what) {
            case 0:
                return now.sessions.from[i];
            case 1:
                return now.sessions.at[i];
            case 2:
                return now.sessions.weight[i];
            case 3:
                return now.sessions.left[i];
            default:
                return outlook.presentCatch(now.sessions.from[i]) == now.sessions.at[i] ? 0 : 1;
        }
    }

    private int countValue(int what) {
        switch (what) {
            case 0:
                return bads;
            case 1:
                return nos;
            case 2:
                return fulls;
            case 3:
                return script.length;
            case 4:
                return now.areas.count;
            case 5:
                return now.sites.count;
            case 6:
                return now.sessions.count;
            case 7:
                return now.time;
            case 8:
                return now.ended;
            case 9:
                return now.broken;
            case 10:
                return now.delayed;
            case 11:
                return now.sites.queued;
            default:
                return history.kept;
        }
    }

    /** Every act begins here, so that the state before it can be kept and no old plan is answered. */
    private void mark() {
        history.markState(now);
        planner.forget();
    }

    /** Every act ends here: no act answers less than 0 but by an error code. */
    private int settled(int answer) {
        if (answer >= 0) {
            history.keepMarked();
        }
        return counted(answer);
    }

    private int counted(int answer) {
        if (answer == BAD) {
            bads++;
        } else if (answer == NO) {
            nos++;
        } else if (answer == FULL) {
            fulls++;
        }
        return answer;
    }

    private static boolean within(int value, int least, int most) {
        return value >= least && value <= most;
    }

    /** The areas and their lines; the distances always fit the lines. */
    private static final class Areas {
        int count;
        final int[] demand = new int[MOST_AREAS];
        final int[] moods = new int[MOST_AREAS];
        final int[] last = new int[MOST_AREAS];
        final int[] lengths = new int[MOST_AREAS * MOST_AREAS];
        final int[] distances = new int[MOST_AREAS * MOST_AREAS];

        boolean has(int a) {
            return within(a, 0, count - 1);
        }

        int add(int want) {
            int a = count;
            demand[a] = want;
            moods[a] = PLAIN;
            last[a] = NONE;
            count++;
            measure();
            return a;
        }

        int lineLength(int a, int b) {
            return lengths[a * MOST_AREAS + b];
        }

        int distance(int a, int b) {
            return distances[a * MOST_AREAS + b];
        }

        void putLine(int a, int b, int n) {
            lengths[a * MOST_AREAS + b] = n;
            lengths[b * MOST_AREAS + a] = n;
            measure();
        }

        private void measure() {
            for (int a = 0; a < count; a++) {
                for (int b = 0; b < count; b++) {
                    int n = lineLength(a, b);
                    distances[a * MOST_AREAS + b] = a == b ? 0 : n == 0 ? NONE : n;
                }
            }
            for (int middle = 0; middle < count; middle++) {
                for (int a = 0; a < count; a++) {
                    for (int b = 0; b < count; b++) {
                        shorten(a, middle, b);
                    }
                }
            }
        }

        private void shorten(int a, int middle, int b) {
            int there = distance(a, middle);
            int onward = distance(middle, b);
            if (there == NONE || onward == NONE) {
                return;
            }
            int known = distance(a, b);
            if (known == NONE || there + onward < known) {
                distances[a * MOST_AREAS + b] = there + onward;
            }
        }

        void copyFrom(Areas other) {
            count = other.count;
            System.arraycopy(other.demand, 0, demand, 0, MOST_AREAS);
            System.arraycopy(other.moods, 0, moods, 0, MOST_AREAS);
            System.arraycopy(other.last, 0, last, 0, MOST_AREAS);
            System.arraycopy(other.lengths, 0, lengths, 0, MOST_AREAS * MOST_AREAS);
            System.arraycopy(other.distances, 0, distances, 0, MOST_AREAS * MOST_AREAS);
        }
    }

    /** The sites, and the queue of those that drain. */
    private static final class Sites {
        int count;
        int queued;
        final int[] home = new int[MOST_SITES];
        final int[] room = new int[MOST_SITES];
        final int[] step = new int[MOST_SITES];
        final int[] mode = new int[MOST_SITES];
        final int[] queue = new int[MOST_SITES];

        boolean has(int s) {
            return within(s, 0, count - 1);
        }

        int add(int a, int capacity) {
            int s = count;
            home[s] = a;
            room[s] = capacity;
            step[s] = 0;
            mode[s] = ON;
            count++;
            return s;
        }

        int notOff() {
            int set = 0;
            for (int s = 0; s < count; s++) {
                if (mode[s] != OFF) {
                    set |= 1 << s;
                }
            }
            return set;
        }

        int placeInQueue(int s) {
            for (int i = 0; i < queued; i++) {
                if (queue[i] == s) {
                    return i;
                }
            }
            return NONE;
        }

        void startDraining(int s) {
            if (queued < MOST_SITES) {
                mode[s] = DRAINING;
                queue[queued] = s;
                queued++;
            }
        }

        void turnOn(int s) {
            mode[s] = ON;
            step[s] = 0;
        }

        void turnOff(int s) {
            mode[s] = OFF;
            step[s] = 0;
            leaveQueue(s);
        }

        private void leaveQueue(int s) {
            int stay = 0;
            for (int i = 0; i < queued; i++) {
                if (queue[i] != s) {
                    queue[stay] = queue[i];
                    stay++;
                }
            }
            queued = stay;
        }

        void copyFrom(Sites other) {
            count = other.count;
            queued = other.queued;
            System.arraycopy(other.home, 0, home, 0, MOST_SITES);
            System.arraycopy(other.room, 0, room, 0, MOST_SITES);
            System.arraycopy(other.step, 0, step, 0, MOST_SITES);
            System.arraycopy(other.mode, 0, mode, 0, MOST_SITES);
            System.arraycopy(other.queue, 0, queue, 0, MOST_SITES);
        }
    }

    /** The sessions in the order in which they began. */
    private static final class Sessions {
        int count;
        final int[] from = new int[MOST_SESSIONS];
        final int[] at = new int[MOST_SESSIONS];
        final int[] weight = new int[MOST_SESSIONS];
        final int[] left = new int[MOST_SESSIONS];

        boolean has(int i) {
            return within(i, 0, count - 1);
        }

        int add(int a, int s, int w, int n) {
            from[count] = a;
            at[count] = s;
            weight[count] = w;
            left[count] = n;
            count++;
            return count;
        }

        void remove(int gone) {
            for (int i = gone + 1; i < count; i++) {
                move(i, i - 1);
            }
            count--;
        }

        void move(int source, int target) {
            from[target] = from[source];
            at[target] = at[source];
            weight[target] = weight[source];
            left[target] = left[source];
        }

        int countOfArea(int a) {
            int n = 0;
            for (int i = 0; i < count; i++) {
                if (from[i] == a) {
                    n++;
                }
            }
            return n;
        }

        int countAtSite(int s) {
            int n = 0;
            for (int i = 0; i < count; i++) {
                if (at[i] == s) {
                    n++;
                }
            }
            return n;
        }

        void copyFrom(Sessions other) {
            count = other.count;
            System.arraycopy(other.from, 0, from, 0, MOST_SESSIONS);
            System.arraycopy(other.at, 0, at, 0, MOST_SESSIONS);
            System.arraycopy(other.weight, 0, weight, 0, MOST_SESSIONS);
            System.arraycopy(other.left, 0, left, 0, MOST_SESSIONS);
        }
    }

    /** All that back() returns to. */
    private static final class State {
        final Areas areas = new Areas();
        final Sites sites = new Sites();
        final Sessions sessions = new Sessions();
        int time;
        int ended;
        int broken;
        int delayed;

        void copyFrom(State other) {
            areas.copyFrom(other.areas);
            sites.copyFrom(other.sites);
            sessions.copyFrom(other.sessions);
            time = other.time;
            ended = other.ended;
            broken = other.broken;
            delayed = other.delayed;
        }
    }

    /**
     * The kept states in a ring. It has one slot more than states are kept: the state before an
     * act is marked there without loss, for an act that fails must not push out the oldest one.
     */
    private static final class History {
        private static final int SLOTS = MOST_KEPT + 1;

        int kept;
        private int marked;
        private final State[] ring = new State[SLOTS];

        History() {
            for (int i = 0; i < SLOTS; i++) {
                ring[i] = new State();
            }
        }

        void markState(State state) {
            ring[marked].copyFrom(state);
        }

        void keepMarked() {
            marked = marked + 1 < SLOTS ? marked + 1 : 0;
            kept = Math.min(kept + 1, MOST_KEPT);
        }

        void restoreMarked(State state) {
            state.copyFrom(ring[marked]);
        }

        void restoreLatest(State state) {
            marked = marked > 0 ? marked - 1 : SLOTS - 1;
            kept--;
            restoreMarked(state);
        }
    }

    /** Catches and loads, as they are or as they would be with other steps or fewer sites. */
    private static final class Outlook {
        final int[] catches = new int[MOST_AREAS];
        final int[] loads = new int[MOST_SITES];
        private final State state;

        Outlook(State state) {
            this.state = state;
        }

        int lookAtPresent() {
            return look(state.sites.notOff(), state.sites.step);
        }

        /** Fills catches and loads as if only the sites in up were not off; returns the overloaded ones of these. */
        int look(int up, int[] step) {
            Sites sites = state.sites;
            for (int s = 0; s < sites.count; s++) {
                loads[s] = 0;
            }
            for (int a = 0; a < state.areas.count; a++) {
                int s = catchOf(a, up, step);
                catches[a] = s;
                if (s != NONE) {
                    loads[s] += state.areas.demand[a];
                }
            }
            addCarried();
            int over = 0;
            for (int s = 0; s < sites.count; s++) {
                if (contains(up, s) && loads[s] > sites.room[s]) {
                    over |= 1 << s;
                }
            }
            return over;
        }

        private void addCarried() {
            Sessions sessions = state.sessions;
            for (int i = 0; i < sessions.count; i++) {
                int s = sessions.at[i];
                if (catches[sessions.from[i]] != s) {
                    loads[s] += sessions.weight[i];
                }
            }
        }

        int presentCatch(int a) {
            return catchOf(a, state.sites.notOff(), state.sites.step);
        }

        /** The distances are read here without a helper: the search for a plan asks this very often. */
        int catchOf(int a, int up, int[] step) {
            Sites sites = state.sites;
            int[] distances = state.areas.distances;
            int row = a * MOST_AREAS;
            int old = state.areas.last[a];
            if (state.areas.moods[a] == LOYAL && old != NONE
                    && contains(up, old) && distances[row + sites.home[old]] != NONE) {
                return old;
            }
            int stepLength = stepLengthFrom(a);
            int best = NONE;
            int nearest = 0;
            for (int s = 0; s < sites.count; s++) {
                int d = distances[row + sites.home[s]];
                if (d == NONE || !contains(up, s)) {
                    continue;
                }
                d += stepLength * step[s];
                if (best == NONE || d < nearest || d == nearest && step[s] < step[best]) {
                    best = s;
                    nearest = d;
                }
            }
            return best;
        }

        private int stepLengthFrom(int a) {
            return state.areas.moods[a] == DEAF ? 0 : STEP_LENGTH;
        }

        int presentApparent(int a, int s) {
            int d = state.areas.distance(a, state.sites.home[s]);
            if (d == NONE || state.sites.mode[s] == OFF) {
                return NONE;
            }
            return d + stepLengthFrom(a) * state.sites.step[s];
        }

        int sitesInReach(int a) {
            int n = 0;
            for (int s = 0; s < state.sites.count; s++) {
                if (presentApparent(a, s) != NONE) {
                    n++;
                }
            }
            return n;
        }

        /** Returns the set of areas whose catch was s at the latest look. */
        int caughtBy(int s) {
            int set = 0;
            for (int a = 0; a < state.areas.count; a++) {
                if (catches[a] == s) {
                    set |= 1 << a;
                }
            }
            return set;
        }

        static boolean contains(int set, int number) {
            return (set >> number & 1) != 0;
        }
    }

    /** The best plan; it is kept until the state changes, for it is dear to find. */
    private static final class Planner {
        private final State state;
        private final Outlook outlook;
        private final int[] trial = new int[MOST_SITES];
        private boolean known;
        private int sum;

        Planner(State state, Outlook outlook) {
            this.state = state;
            this.outlook = outlook;
        }

        void forget() {
            known = false;
        }

        /** Returns NONE if there is no plan. */
        int bestSum() {
            if (known) {
                return sum;
            }
            known = true;
            sum = NONE;
            int up = state.sites.notOff();
            int most = hasTooLittleRoom(up) ? NONE : MOST_STEP * Integer.bitCount(up);
            for (int total = 0; total <= most && sum == NONE; total++) {
                if (spreads(0, total, up)) {
                    sum = total;
                }
            }
            return sum;
        }

        int stepOf(int s) {
            return trial[s];
        }

        /**
         * Steps move demand only among sites that ways join: where the rooms of these are too small
         * together, the long search for a plan would find none.
         */
        private boolean hasTooLittleRoom(int up) {
            for (int s = 0; s < state.sites.count; s++) {
                int a = state.sites.home[s];
                if (Outlook.contains(up, s) && roomAround(a, up) < demandAround(a)) {
                    return true;
                }
            }
            return false;
        }

        private int roomAround(int a, int up) {
            int room = 0;
            for (int s = 0; s < state.sites.count; s++) {
                if (Outlook.contains(up, s) && state.areas.distance(a, state.sites.home[s]) != NONE) {
                    room += state.sites.room[s];
                }
            }
            return room;
        }

        private int demandAround(int a) {
            int demand = 0;
            for (int b = 0; b < state.areas.count; b++) {
                if (state.areas.distance(a, b) != NONE) {
                    demand += state.areas.demand[b];
                }
            }
            return demand;
        }

        /** Tries, in lexicographic order, the steps of the sites from s on whose sum is rest. */
        private boolean spreads(int s, int rest, int up) {
            if (s >= state.sites.count) {
                return rest == 0 && outlook.look(up, trial) == 0;
            }
            if (!Outlook.contains(up, s)) {
                trial[s] = state.sites.step[s];
                return spreads(s + 1, rest, up);
            }
            int mostLater = MOST_STEP * Integer.bitCount(up >> (s + 1));
            int top = Math.min(MOST_STEP, rest);
            for (int k = Math.max(0, rest - mostLater); k <= top; k++) {
                trial[s] = k;
                if (spreads(s + 1, rest - k, up)) {
                    return true;
                }
            }
            return false;
        }
    }

    /** What happens when sites go off, one after the other or together. */
    private static final class Failures {
        private final State state;
        private final Outlook outlook;
        private final int[] sequence = new int[MOST_SITES];

        Failures(State state, Outlook outlook) {
            this.state = state;
            this.outlook = outlook;
        }

        boolean isSafeToGo(int s) {
            return state.sites.mode[s] != OFF && staysCalm(1 << s);
        }

        private boolean staysCalm(int gone) {
            return outlook.look(state.sites.notOff() & ~gone, state.sites.step) == 0;
        }

        /** Returns the site at index i of the best order of withdrawal of a set of sites that are not off. */
        int withdrawn(int set, int i) {
            if (i >= Integer.bitCount(set) || !withdraws(set, 0, 0)) {
                return NONE;
            }
            return i < MOST_SITES ? sequence[i] : NONE;
        }

        private boolean withdraws(int set, int gone, int depth) {
            if (gone == set) {
                return true;
            }
            if (depth >= MOST_SITES) {
                return false;
            }
            for (int s = 0; s < state.sites.count; s++) {
                int then = gone | 1 << s;
                if (!Outlook.contains(set & ~gone, s) || !staysCalm(then)) {
                    continue;
                }
                sequence[depth] = s;
                if (withdraws(set, then, depth + 1)) {
                    return true;
                }
            }
            return false;
        }

        /** Returns NONE if fewer than n sites are not off. */
        int worstSet(int n) {
            int up = state.sites.notOff();
            int worst = NONE;
            int most = NONE;
            for (int set = 1; set <= up; set++) {
                if ((set & ~up) != 0 || Integer.bitCount(set) != n) {
                    continue;
                }
                int sum = excess(set);
                if (sum > most) {
                    most = sum;
                    worst = set;
                }
            }
            return worst;
        }

        /** Returns by how much the other sites would exceed their capacities together if those in gone were off. */
        int excess(int gone) {
            int rest = state.sites.notOff() & ~gone;
            outlook.look(rest, state.sites.step);
            int sum = 0;
            for (int s = 0; s < state.sites.count; s++) {
                if (Outlook.contains(rest, s)) {
                    sum += Math.max(0, outlook.loads[s] - state.sites.room[s]);
                }
            }
            return sum;
        }
    }

    /** The acts, without counting their errors and without keeping states: a text carries them out as well. */
    private static final class Acts {
        private final State state;
        private final Outlook outlook;
        private final Planner planner;

        Acts(State state, Outlook outlook, Planner planner) {
            this.state = state;
            this.outlook = outlook;
            this.planner = planner;
        }

        int carryOut(int letter, int x, int y, int z) {
            switch (letter) {
                case 'a':
                    return addArea(x);
                case 'l':
                    return setLine(x, y, z);
                case 's':
                    return addSite(x, y);
                case 'm':
                    return setMood(x, y);
                case 'p':
                    return setStep(x, y);
                case 'o':
                    return openSession(x, y, z);
                case 'd':
                    return startDrain(x);
                case 'x':
                    return switchSite(x);
                case 't':
                    return passTicks(x);
                default:
                    return BAD;
            }
        }

        int addArea(int want) {
            if (!within(want, 0, MOST_DEMAND)) {
                return BAD;
            }
            return state.areas.count >= MOST_AREAS ? FULL : state.areas.add(want);
        }

        int setDemand(int a, int w) {
            if (!state.areas.has(a) || !within(w, 0, MOST_DEMAND)) {
                return BAD;
            }
            int old = state.areas.demand[a];
            state.areas.demand[a] = w;
            return old;
        }

        int setLine(int a, int b, int n) {
            if (!state.areas.has(a) || !state.areas.has(b) || a == b || !within(n, 0, MOST_LENGTH)) {
                return BAD;
            }
            int old = state.areas.lineLength(a, b);
            state.areas.putLine(a, b, n);
            return old;
        }

        int setMood(int a, int k) {
            if (!state.areas.has(a) || !within(k, PLAIN, LOYAL)) {
                return BAD;
            }
            int old = state.areas.moods[a];
            if (k == LOYAL && old != LOYAL) {
                state.areas.last[a] = outlook.presentCatch(a);
            }
            state.areas.moods[a] = k;
            return old;
        }

        int addSite(int a, int room) {
            if (!state.areas.has(a) || !within(room, 0, MOST_ROOM)) {
                return BAD;
            }
            return state.sites.count >= MOST_SITES ? FULL : state.sites.add(a, room);
        }

        int setRoom(int s, int r) {
            if (!state.sites.has(s) || !within(r, 0, MOST_ROOM)) {
                return BAD;
            }
            int old = state.sites.room[s];
            state.sites.room[s] = r;
            return old;
        }

        int setStep(int s, int k) {
            if (!state.sites.has(s) || !within(k, 0, MOST_STEP)) {
                return BAD;
            }
            if (state.sites.mode[s] != ON) {
                return NO;
            }
            int old = state.sites.step[s];
            state.sites.step[s] = k;
            return old;
        }

        int startDrain(int s) {
            if (!state.sites.has(s)) {
                return BAD;
            }
            if (state.sites.mode[s] != ON) {
                return NO;
            }
            state.sites.startDraining(s);
            return state.sites.queued;
        }

        int switchSite(int s) {
            if (!state.sites.has(s)) {
                return BAD;
            }
            if (state.sites.mode[s] == OFF) {
                state.sites.turnOn(s);
            } else {
                state.sites.turnOff(s);
            }
            return state.sites.mode[s];
        }

        int openSession(int a, int w, int n) {
            if (!state.areas.has(a) || !within(w, 1, MOST_WEIGHT) || !within(n, 1, MOST_TICKS)) {
                return BAD;
            }
            int s = outlook.presentCatch(a);
            if (s == NONE) {
                return NO;
            }
            return state.sessions.count >= MOST_SESSIONS ? FULL : state.sessions.add(a, s, w, n);
        }

        int endSession(int i) {
            if (!state.sessions.has(i)) {
                return BAD;
            }
            state.sessions.remove(i);
            state.ended++;
            return state.sessions.count;
        }

        int layPlan() {
            int sum = planner.bestSum();
            if (sum == NONE) {
                return NO;
            }
            for (int s = 0; s < state.sites.count; s++) {
                state.sites.step[s] = planner.stepOf(s);
            }
            return sum;
        }

        int passTicks(int n) {
            if (!within(n, 1, MOST_TICKS)) {
                return BAD;
            }
            int endedBefore = state.ended;
            for (int i = 0; i < n; i++) {
                ageSessions();
                advanceDrain();
                noteLastSites();
                state.time++;
            }
            return state.ended - endedBefore;
        }

        private void ageSessions() {
            Sessions sessions = state.sessions;
            int up = state.sites.notOff();
            int stay = 0;
            for (int i = 0; i < sessions.count; i++) {
                if (outlives(i, up)) {
                    sessions.move(i, stay);
                    stay++;
                }
            }
            state.ended += sessions.count - stay;
            sessions.count = stay;
        }

        private boolean outlives(int i, int up) {
            Sessions sessions = state.sessions;
            sessions.left[i]--;
            if (sessions.left[i] <= 0) {
                return false;
            }
            if (Outlook.contains(up, sessions.at[i])) {
                return true;
            }
            state.broken++;
            int s = outlook.catchOf(sessions.from[i], up, state.sites.step);
            if (s == NONE) {
                return false;
            }
            sessions.at[i] = s;
            return true;
        }

        private void advanceDrain() {
            Sites sites = state.sites;
            if (sites.queued == 0) {
                return;
            }
            int s = sites.queue[0];
            int step = sites.step[s];
            int up = sites.notOff();
            int overBefore = outlook.look(up, sites.step);
            boolean goes = step >= MOST_STEP || outlook.caughtBy(s) == 0;
            if (goes) {
                up &= ~(1 << s);
            } else {
                sites.step[s] = step + 1;
            }
            int over = outlook.look(up, sites.step);
            if ((over & ~overBefore & ~(1 << s)) != 0) {
                sites.step[s] = step;
                state.delayed++;
            } else if (goes) {
                sites.turnOff(s);
            }
        }

        private void noteLastSites() {
            for (int a = 0; a < state.areas.count; a++) {
                state.areas.last[a] = outlook.presentCatch(a);
            }
        }
    }

    /** The text buffer, and the orders that its text tells. */
    private static final class Script {
        int length;
        int orders;
        private int begun;
        private int digits;
        private final int[] bytes = new int[MOST_BYTES];
        // An order takes more than one byte, so there is room for all that a full buffer can tell.
        private final int[] letters = new int[MOST_BYTES];
        private final int[] numbers = new int[MOST_BYTES * MOST_NUMBERS];

        int append(int c) {
            if (length >= MOST_BYTES) {
                return FULL;
            }
            bytes[length] = c;
            length++;
            return length;
        }

        int emptied() {
            int had = length;
            length = 0;
            return had;
        }

        int letter(int i) {
            return letters[i];
        }

        int number(int i, int k) {
            return numbers[i * MOST_NUMBERS + k];
        }

        /** Returns the fault, or NONE; only without a fault the orders are those of the text. */
        int parse() {
            orders = 0;
            int due = 0;
            for (int i = 0; i < length; i++) {
                int c = bytes[i];
                if (c == ' ') {
                    digits = 0;
                } else if (due == 0) {
                    due = numbersBehind(c);
                    if (due == 0) {
                        return i;
                    }
                    begin(c);
                } else if (c == ';' && begun == due) {
                    orders++;
                    due = 0;
                } else if (!takesDigit(c, due)) {
                    return i;
                }
            }
            return due > 0 || orders == 0 ? length : NONE;
        }

        private void begin(int letter) {
            letters[orders] = letter;
            begun = 0;
            digits = 0;
        }

        private boolean takesDigit(int c, int due) {
            if (!within(c, '0', '9') || digits >= MOST_DIGITS) {
                return false;
            }
            if (digits == 0) {
                if (begun >= due) {
                    return false;
                }
                numbers[orders * MOST_NUMBERS + begun] = 0;
                begun++;
            }
            int place = orders * MOST_NUMBERS + begun - 1;
            numbers[place] = 10 * numbers[place] + c - '0';
            digits++;
            return true;
        }

        private static int numbersBehind(int letter) {
            switch (letter) {
                case 'a':
                case 'd':
                case 'x':
                case 't':
                    return 1;
                case 's':
                case 'm':
                case 'p':
                    return 2;
                case 'l':
                case 'o':
                    return 3;
                default:
                    return 0;
            }
        }
    }
}
