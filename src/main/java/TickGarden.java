import java.util.Arrays;

/** A garden that ticks: buckets of bamboo, spouts, frogs, weather, pipes; shared/DOC.md says what each call answers. */
public final class TickGarden {
    public static final int NONE = -1, UNKNOWN = -1001, OUTSIDE = -1002, NOT = -1003, FULL = -1004;

    private static final int BUCKETS = 8, SPOUTS = 4, FROGS = 10, SPELLS = 10;
    private static final int MOST_SIZE = 100, MOST_REST = 20, MOST_DELAY = 20;
    private static final int MOST_DROP = 20, MOST_EVERY = 30, MOST_FIRST = 30, MOST_WET = 20, MOST_DRY = 50;
    private static final int LATEST = 2000, MOST_TICKS_AT_ONCE = 200;
    private static final int ROW_TICKS = 60;
    private static final long ROW_BITS = (1L << ROW_TICKS) - 1;
    private static final int ROUND_FROM = 31, ROUND_LATEST = 1000, MEETING_TICKS = 1000;
    private static final int WISH_MOST_DROP = 8, WISH_MOST_EVERY = 8, MOST_SHIFT = 5;
    private static final int MUTE_FAULTS = 10, CUT_FAULTS = 20, FAULTS = 30;
    private static final int MOST_KNOCKS = 200, MOST_TURN_TICKS = 200;
    private static final int MOST_CHANGE = 2, CHANGES = 5, WAYS = CHANGES * CHANGES * CHANGES * CHANGES;

    private final Plan plan = new Plan();
    private final Flow live = new Flow(plan, new Twist());
    private final Twist twist = new Twist();
    private final Flow trial = new Flow(plan, twist);
    private final Flow later = new Flow(plan, twist);
    private final Heard heard = new Heard();
    private final Blame blame = new Blame();

    public TickGarden() {
    }

    // ---- what there is

    public int bucket(int size, int rest) {
        if (!within(size, 1, MOST_SIZE) || !within(rest, 0, MOST_REST)) {
            return OUTSIDE;
        }
        return plan.buckets.add(size, rest);
    }

    public int pipe(int b, int to, int delay) {
        if (!plan.buckets.has(b) || to != NONE && !plan.buckets.has(to)) {
            return UNKNOWN;
        }
        if (!within(delay, 1, MOST_DELAY)) {
            return OUTSIDE;
        }
        plan.buckets.lead(b, to, delay);
        return 1;
    }

    public int spout(int to, int drop, int every, int first) {
        if (!plan.buckets.has(to)) {
            return UNKNOWN;
        }
        if (!within(drop, 0, MOST_DROP) || !within(every, 1, MOST_EVERY) || !within(first, 0, MOST_FIRST)) {
            return OUTSIDE;
        }
        return plan.spouts.add(to, drop, every, first);
    }

    public int turn(int s, int v) {
        if (!plan.spouts.has(s)) {
            return UNKNOWN;
        }
        if (!within(v, 0, MOST_DROP)) {
            return OUTSIDE;
        }
        int was = plan.spouts.drop[s];
        plan.spouts.drop[s] = v;
        return was;
    }

    public int frog(int s, int from, int to) {
        if (!plan.spouts.has(s)) {
            return UNKNOWN;
        }
        if (!within(from, 0, LATEST) || !within(to, from, LATEST)) {
            return OUTSIDE;
        }
        return plan.frogs.add(s, from, to);
    }

    public int weather(int from, int wet) {
        if (!within(from, 0, LATEST) || !within(wet, -MOST_WET, MOST_WET)) {
            return OUTSIDE;
        }
        return plan.spells.add(from, wet);
    }

    public int dry(int v) {
        if (!within(v, 0, MOST_DRY)) {
            return OUTSIDE;
        }
        int was = plan.dryness;
        plan.dryness = v;
        return was;
    }

    public int told(int b, int what) {
        if (!plan.buckets.has(b)) {
            return UNKNOWN;
        }
        switch (what) {
            case 0: return plan.buckets.size[b];
            case 1: return plan.buckets.rest[b];
            case 2: return plan.buckets.leads[b];
            case 3: return plan.buckets.leads[b] == NONE ? NONE : plan.buckets.delay[b];
            case 4: return live.holds[b];
            case 5: return live.down[b];
            case 6: return live.knocks[b];
            case 7: return live.lastKnock[b];
            case 8: return sum(live.coming[b]);
            default: return OUTSIDE;
        }
    }

    public int count(int what) {
        switch (what) {
            case 0: return live.now;
            case 1: return plan.buckets.many;
            case 2: return plan.spouts.many;
            case 3: return plan.frogs.many;
            case 4: return plan.spells.many;
            case 5: return sum(live.knocks);
            case 6: return live.dripped;
            case 7: return sum(live.holds);
            case 8: return live.inPipes();
            case 9: return live.brook;
            case 10: return live.lost;
            case 11: return heard.many;
            default: return OUTSIDE;
        }
    }

    // ---- ticks

    public int tick(int n) {
        if (!within(n, 0, MOST_TICKS_AT_ONCE)) {
            return OUTSIDE;
        }
        if (live.now + n > LATEST) {
            return NOT;
        }
        int knocks = 0;
        for (int i = 0; i < n; i++) {
            knocks += Integer.bitCount(live.step());
        }
        return knocks;
    }

    public int again() {
        int done = live.now;
        live.begin();
        return done;
    }

    // ---- runs

    public long row(int b, boolean plain) {
        if (!plan.buckets.has(b)) {
            return UNKNOWN;
        }
        twist.reset(plain);
        trial.begin();
        long knocks = 0;
        for (int t = 0; t < ROW_TICKS; t++) {
            long knocked = trial.step() >>> b & 1;
            knocks |= knocked << t;
        }
        return knocks;
    }

    public int round(int what) {
        if (!within(what, 0, 1)) {
            return OUTSIDE;
        }
        int length = roundLength();
        int start = length == NONE ? NONE : roundStart(length);
        return what == 0 || start == NONE ? start : length;
    }

    public int meeting(int b, int c) {
        if (!plan.buckets.has(b) || !plan.buckets.has(c)) {
            return UNKNOWN;
        }
        if (b == c) {
            return NOT;
        }
        int both = 1 << b | 1 << c;
        twist.reset(true);
        trial.begin();
        for (int t = 0; t < MEETING_TICKS; t++) {
            if ((trial.step() & both) == both) {
                return t;
            }
        }
        return NONE;
    }

    public int drip(long wish, int size, int rest, int what) {
        if (!isRow(wish) || !within(size, 1, MOST_SIZE) || !within(rest, 0, MOST_REST) || !within(what, 0, 2)) {
            return OUTSIDE;
        }
        int bestDrop = 0;
        int bestEvery = 0;
        int bestOff = ROW_TICKS + 1;
        for (int drop = 1; drop <= WISH_MOST_DROP; drop++) {
            for (int every = 1; every <= WISH_MOST_EVERY; every++) {
                int off = offOf(wish, loneRow(size, rest, drop, every));
                if (off < bestOff) {
                    bestDrop = drop;
                    bestEvery = every;
                    bestOff = off;
                }
            }
        }
        return what == 0 ? bestDrop : what == 1 ? bestEvery : bestOff;
    }

    public int hear(int b, long row) {
        if (!plan.buckets.has(b)) {
            return UNKNOWN;
        }
        if (!isRow(row)) {
            return OUTSIDE;
        }
        return heard.note(b, row);
    }

    public int hush() {
        int were = heard.many;
        heard.forget();
        return were;
    }

    public int blamed(int what) {
        if (!within(what, 0, 3)) {
            return OUTSIDE;
        }
        blame.forget();
        tryFaults(NONE, NONE);
        if (blame.many == 0) {
            trySingleFaults();
        }
        if (blame.many == 0) {
            tryPairsOfFaults();
        }
        switch (what) {
            case 0: return blame.faultsInEach();
            case 1: return blame.many;
            case 2: return blame.first;
            default: return blame.second;
        }
    }

    public int mended(int b, int n, int ticks, int s) {
        if (!plan.buckets.has(b) || s != NONE && !plan.spouts.has(s)) {
            return UNKNOWN;
        }
        if (!within(n, 0, MOST_KNOCKS) || !within(ticks, 1, MOST_TURN_TICKS)) {
            return OUTSIDE;
        }
        int way = leastWay(b, n, ticks);
        if (s == NONE) {
            return way == NONE ? NONE : sizeOf(way);
        }
        return way == NONE ? 0 : changeIn(way, s);
    }

    // ---- helpers of many calls

    private static boolean within(int v, int low, int high) {
        return low <= v && v <= high;
    }

    private static boolean isRow(long bits) {
        return (bits & ~ROW_BITS) == 0;
    }

    private static boolean goesInto(int part, int whole) {
        return part > 0 && whole % part == 0;
    }

    private static int sum(int[] numbers) {
        int all = 0;
        for (int number : numbers) {
            all += number;
        }
        return all;
    }

    // ---- the round

    /**
     * From tick ROUND_FROM on, a state and the tick's place in the beat of spouts and dryness settle all that follows:
     * so what comes again once comes again for good, and if there is a round at all, tick ROUND_LATEST is in it.
     */
    private int roundLength() {
        runPlain(trial, ROUND_LATEST);
        runPlain(later, ROUND_LATEST);
        for (int n = 1; ROUND_FROM + n <= ROUND_LATEST; n++) {
            later.step();
            if (plan.isBeat(n) && later.isLike(trial)) {
                return n;
            }
        }
        return NONE;
    }

    /** The round has the same length wherever it begins: so only its beginning is sought here, NONE if that is too late. */
    private int roundStart(int length) {
        runPlain(trial, ROUND_FROM);
        runPlain(later, ROUND_FROM + length);
        for (int a = ROUND_FROM; a + length <= ROUND_LATEST; a++) {
            if (later.isLike(trial)) {
                return a;
            }
            trial.step();
            later.step();
        }
        return NONE;
    }

    private void runPlain(Flow flow, int ticks) {
        twist.reset(true);
        flow.begin();
        for (int t = 0; t < ticks; t++) {
            flow.step();
        }
    }

    // ---- the drip

    /** The row of a lone bucket below a lone spout; what comes while it is down is gone. */
    private static long loneRow(int size, int rest, int drop, int every) {
        long knocks = 0;
        int holds = 0;
        int down = 0;
        for (int t = 0; t < ROW_TICKS; t++) {
            if (down > 0) {
                down--;
                continue;
            }
            if (goesInto(every, t)) {
                holds += drop;
            }
            if (holds >= size) {
                knocks |= 1L << t;
                holds = 0;
                down = rest;
            }
        }
        return knocks;
    }

    private static int offOf(long wish, long row) {
        int least = ROW_TICKS;
        for (int h = -MOST_SHIFT; h <= MOST_SHIFT; h++) {
            long shifted = h < 0 ? row >>> -h : row << h & ROW_BITS;
            least = Math.min(least, Long.bitCount(wish ^ shifted) + Math.abs(h));
        }
        return least;
    }

    // ---- the blame

    private void trySingleFaults() {
        for (int fault = 0; fault < FAULTS; fault++) {
            if (plan.canFail(fault)) {
                tryFaults(fault, NONE);
            }
        }
    }

    private void tryPairsOfFaults() {
        for (int first = 0; first < FAULTS; first++) {
            for (int second = first + 1; second < FAULTS; second++) {
                if (plan.canFail(first) && plan.canFail(second)) {
                    tryFaults(first, second);
                }
            }
        }
    }

    private void tryFaults(int first, int second) {
        twist.reset(false);
        twist.fail(first);
        twist.fail(second);
        trial.begin();
        for (int t = 0; t < ROW_TICKS; t++) {
            if (!heard.agrees(t, trial.step())) {
                return;
            }
        }
        blame.add(first, second);
    }

    // ---- the turn

    /**
     * The first of the ways with the least sum of sizes, or NONE. A way is a number of SPOUTS digits, base CHANGES,
     * spout 0's the highest: so the ways' own order is the one that is asked for.
     */
    private int leastWay(int b, int n, int ticks) {
        for (int size = 0; size <= MOST_CHANGE * SPOUTS; size++) {
            for (int way = 0; way < WAYS; way++) {
                if (sizeOf(way) == size && isOpen(way) && knocksJust(way, b, n, ticks)) {
                    return way;
                }
            }
        }
        return NONE;
    }

    private static int changeIn(int way, int s) {
        int digits = way;
        for (int i = SPOUTS - 1; i > s; i--) {
            digits /= CHANGES;
        }
        return digits % CHANGES - MOST_CHANGE;
    }

    private static int sizeOf(int way) {
        int size = 0;
        for (int s = 0; s < SPOUTS; s++) {
            size += Math.abs(changeIn(way, s));
        }
        return size;
    }

    /** Whether each spout can be turned so; where there is no spout, nothing can be turned. */
    private boolean isOpen(int way) {
        for (int s = 0; s < SPOUTS; s++) {
            int change = changeIn(way, s);
            if (plan.spouts.has(s) ? !within(plan.spouts.drop[s] + change, 0, MOST_DROP) : change != 0) {
                return false;
            }
        }
        return true;
    }

    /** Stops as soon as the knocks are too many, or the ticks that are left too few. */
    private boolean knocksJust(int way, int b, int n, int ticks) {
        twist.reset(false);
        for (int s = 0; s < SPOUTS; s++) {
            twist.change[s] = changeIn(way, s);
        }
        trial.begin();
        int knocks = 0;
        for (int t = 0; t < ticks && knocks <= n && knocks + ticks - t >= n; t++) {
            knocks += trial.step() >>> b & 1;
        }
        return knocks == n;
    }

    /** The buckets as they were told, with their pipes. */
    private static final class Buckets {
        int many;
        final int[] size = new int[BUCKETS];
        final int[] rest = new int[BUCKETS];
        final int[] leads = new int[BUCKETS];
        final int[] delay = new int[BUCKETS];

        boolean has(int b) {
            return b >= 0 && b < many;
        }

        int add(int itsSize, int itsRest) {
            if (many >= BUCKETS) {
                return FULL;
            }
            size[many] = itsSize;
            rest[many] = itsRest;
            leads[many] = NONE;
            return many++;
        }

        void lead(int b, int to, int itsDelay) {
            leads[b] = to;
            delay[b] = itsDelay;
        }
    }

    /** The spouts as they were told and turned. */
    private static final class Spouts {
        int many;
        final int[] leads = new int[SPOUTS];
        final int[] drop = new int[SPOUTS];
        final int[] every = new int[SPOUTS];
        final int[] first = new int[SPOUTS];

        boolean has(int s) {
            return s >= 0 && s < many;
        }

        int add(int to, int itsDrop, int itsEvery, int itsFirst) {
            if (many >= SPOUTS) {
                return FULL;
            }
            leads[many] = to;
            drop[many] = itsDrop;
            every[many] = itsEvery;
            first[many] = itsFirst;
            return many++;
        }

        boolean isDue(int s, int t) {
            return t >= first[s] && goesInto(every[s], t - first[s]);
        }
    }

    /** The frogs, each with its spout and its first and last tick on it. */
    private static final class Frogs {
        int many;
        final int[] seat = new int[FROGS];
        final int[] from = new int[FROGS];
        final int[] to = new int[FROGS];

        int add(int s, int comes, int goes) {
            if (many >= FROGS) {
                return FULL;
            }
            seat[many] = s;
            from[many] = comes;
            to[many] = goes;
            many++;
            return many;
        }

        boolean sitOn(int s, int t) {
            for (int f = 0; f < many; f++) {
                if (seat[f] == s && from[f] <= t && t <= to[f]) {
                    return true;
                }
            }
            return false;
        }
    }

    /** The spells of weather. */
    private static final class Spells {
        int many;
        final int[] from = new int[SPELLS];
        final int[] wet = new int[SPELLS];

        int add(int tick, int itsWet) {
            if (many >= SPELLS) {
                return FULL;
            }
            from[many] = tick;
            wet[many] = itsWet;
            many++;
            return many;
        }

        int wetAt(int t) {
            int latest = 0;
            int rules = 0;
            for (int i = 0; i < many; i++) {
                if (within(from[i], latest, t)) {
                    latest = from[i];
                    rules = wet[i];
                }
            }
            return rules;
        }
    }

    /** All that was told of the garden, but for what was heard. */
    private static final class Plan {
        final Buckets buckets = new Buckets();
        final Spouts spouts = new Spouts();
        final Frogs frogs = new Frogs();
        final Spells spells = new Spells();
        int dryness;

        /** Whether after n ticks all spouts and the dryness are where they were. */
        boolean isBeat(int n) {
            for (int s = 0; s < spouts.many; s++) {
                if (!goesInto(spouts.every[s], n)) {
                    return false;
                }
            }
            return dryness == 0 || goesInto(dryness, n);
        }

        boolean canFail(int fault) {
            if (fault < MUTE_FAULTS) {
                return spouts.has(fault);
            }
            return buckets.has(fault < CUT_FAULTS ? fault - MUTE_FAULTS : fault - CUT_FAULTS);
        }
    }

    /** In what a run is other than the plan: without frogs and weather, with faults, with turned spouts. */
    private static final class Twist {
        boolean plain;
        final int[] change = new int[SPOUTS];
        final boolean[] stopped = new boolean[SPOUTS];
        final boolean[] mute = new boolean[BUCKETS];
        final boolean[] cut = new boolean[BUCKETS];

        void reset(boolean isPlain) {
            plain = isPlain;
            for (int s = 0; s < SPOUTS; s++) {
                change[s] = 0;
                stopped[s] = false;
            }
            for (int b = 0; b < BUCKETS; b++) {
                mute[b] = false;
                cut[b] = false;
            }
        }

        void fail(int fault) {
            if (within(fault, 0, SPOUTS - 1)) {
                stopped[fault] = true;
            } else if (within(fault, MUTE_FAULTS, MUTE_FAULTS + BUCKETS - 1)) {
                mute[fault - MUTE_FAULTS] = true;
            } else if (within(fault, CUT_FAULTS, CUT_FAULTS + BUCKETS - 1)) {
                cut[fault - CUT_FAULTS] = true;
            }
        }
    }

    /** The water and the knocks of the garden from the beginning to now. */
    private static final class Flow {
        final Plan plan;
        final Twist twist;
        int now;
        int dripped;
        int brook;
        int lost;
        final int[] holds = new int[BUCKETS];
        final int[] down = new int[BUCKETS];
        final int[] knocks = new int[BUCKETS];
        final int[] lastKnock = new int[BUCKETS];
        /** What comes to a bucket at tick t is at t % MOST_DELAY: a tick's place is empty again before it is filled anew. */
        final int[][] coming = new int[BUCKETS][MOST_DELAY];

        Flow(Plan itsPlan, Twist itsTwist) {
            plan = itsPlan;
            twist = itsTwist;
            Arrays.fill(lastKnock, NONE);
        }

        void begin() {
            now = 0;
            dripped = 0;
            brook = 0;
            lost = 0;
            Arrays.fill(holds, 0);
            Arrays.fill(down, 0);
            Arrays.fill(knocks, 0);
            Arrays.fill(lastKnock, NONE);
            for (int b = 0; b < BUCKETS; b++) {
                Arrays.fill(coming[b], 0);
            }
        }

        /** Does one tick; bit b of the answer: bucket b knocked in it. */
        int step() {
            takeDrips();
            takeFromPipes();
            if (goesInto(plan.dryness, now)) {
                dryUp();
            }
            int knocked = tipAll();
            now++;
            return knocked;
        }

        private void takeDrips() {
            int wet = twist.plain ? 0 : plan.spells.wetAt(now);
            for (int s = 0; s < plan.spouts.many; s++) {
                if (plan.spouts.isDue(s, now) && !isHeldBack(s)) {
                    int water = Math.max(0, plan.spouts.drop[s] + twist.change[s] + wet);
                    dripped += water;
                    pour(plan.spouts.leads[s], water);
                }
            }
        }

        private boolean isHeldBack(int s) {
            return twist.stopped[s] || !twist.plain && plan.frogs.sitOn(s, now);
        }

        private void takeFromPipes() {
            int place = now % MOST_DELAY;
            for (int b = 0; b < plan.buckets.many; b++) {
                pour(b, coming[b][place]);
                coming[b][place] = 0;
            }
        }

        private void pour(int b, int water) {
            if (down[b] == 0) {
                holds[b] += water;
            } else {
                brook += water;
            }
        }

        private void dryUp() {
            for (int b = 0; b < plan.buckets.many; b++) {
                if (down[b] == 0 && holds[b] > 0) {
                    holds[b]--;
                    lost++;
                }
            }
        }

        private int tipAll() {
            int knocked = 0;
            for (int b = 0; b < plan.buckets.many; b++) {
                if (down[b] > 0) {
                    down[b]--;
                } else if (holds[b] >= plan.buckets.size[b] && !twist.mute[b]) {
                    tip(b);
                    knocked |= 1 << b;
                }
            }
            return knocked;
        }

        private void tip(int b) {
            int to = plan.buckets.leads[b];
            if (twist.cut[b] || !plan.buckets.has(to)) {
                brook += holds[b];
            } else {
                coming[to][(now + plan.buckets.delay[b]) % MOST_DELAY] += holds[b];
            }
            holds[b] = 0;
            down[b] = plan.buckets.rest[b];
            knocks[b]++;
            lastKnock[b] = now;
        }

        int inPipes() {
            int all = 0;
            for (int b = 0; b < BUCKETS; b++) {
                all += sum(coming[b]);
            }
            return all;
        }

        /** Whether all that settles what follows is as in the other one, each seen from its own now. */
        boolean isLike(Flow other) {
            for (int b = 0; b < plan.buckets.many; b++) {
                if (holds[b] != other.holds[b] || down[b] != other.down[b] || !hasComing(b, other)) {
                    return false;
                }
            }
            return true;
        }

        private boolean hasComing(int b, Flow other) {
            for (int i = 0; i < MOST_DELAY; i++) {
                if (coming[b][(now + i) % MOST_DELAY] != other.coming[b][(other.now + i) % MOST_DELAY]) {
                    return false;
                }
            }
            return true;
        }
    }

    /** The rows that were heard. */
    private static final class Heard {
        int many;
        final boolean[] known = new boolean[BUCKETS];
        final long[] rows = new long[BUCKETS];

        int note(int b, long row) {
            if (!known[b]) {
                known[b] = true;
                many++;
            }
            rows[b] = row;
            return many;
        }

        void forget() {
            many = 0;
            for (int b = 0; b < BUCKETS; b++) {
                known[b] = false;
            }
        }

        /** Whether the buckets that knocked at tick t are, of those heard, the ones heard then. */
        boolean agrees(int t, int knocked) {
            for (int b = 0; b < BUCKETS; b++) {
                if (known[b] && (rows[b] >>> t & 1) != (knocked >>> b & 1)) {
                    return false;
                }
            }
            return true;
        }
    }

    /** The faults with which all is as it was heard: how many there are so, and the first of them. */
    private static final class Blame {
        int many;
        int first;
        int second;

        void forget() {
            many = 0;
            first = NONE;
            second = NONE;
        }

        void add(int one, int other) {
            if (many == 0) {
                first = one;
                second = other;
            }
            many++;
        }

        int faultsInEach() {
            if (many == 0) {
                return NONE;
            }
            return first == NONE ? 0 : second == NONE ? 1 : 2;
        }
    }
}
