import java.util.ArrayList;
import java.util.Arrays;
import java.util.List;

/**
 * Long runs of made-up calls, each answered by the class and by a slow model that follows the document's words one by one:
 * the round by looking at each a and n, the turn by all its ways, the blame by all sets of faults.
 */
public final class ModelTest {
    private static final int RUNS = 800;
    private static final int ROUNDS_OF_CALLS = 100;
    /** An object is used for 512 calls: the dearest of a run's rounds, and the last telling, need less than 80. */
    private static final int LAST_CALLS_FROM = 430;
    private static final int NONE = -1, UNKNOWN = -1001, OUTSIDE = -1002, NOT = -1003, FULL = -1004;

    /** The same numbers each time, so that a failure can be looked at again. */
    private static final class Numbers {
        private long seed;

        Numbers(long seed) {
            this.seed = seed;
        }

        int below(int bound) {
            seed = seed * 6364136223846793005L + 1442695040888963407L;
            return (int) ((seed >>> 33) % bound);
        }

        int from(int low, int high) {
            return low + below(high - low + 1);
        }

        boolean oneIn(int n) {
            return below(n) == 0;
        }

        long bits() {
            return (long) below(1 << 30) << 30 | below(1 << 30);
        }

        /** Mostly between low and high; now and then an edge, a neighbour of it or a number far away. */
        int near(int low, int high) {
            switch (below(24)) {
                case 0: return low;
                case 1: return high;
                case 2: return oneIn(3) ? low - 1 : low;
                case 3: return oneIn(3) ? high + 1 : high;
                case 4: return oneIn(4) ? Integer.MIN_VALUE : low;
                case 5: return oneIn(4) ? Integer.MAX_VALUE : high;
                default: return from(low, high);
            }
        }
    }

    private static final class Bucket {
        int size, rest, to = NONE, delay;
    }

    private static final class Spout {
        int to, drop, every, first;
    }

    /** What stands for a frog (spout, from, to) or a spell (from, wet). */
    private static final class Model {
        final List<Bucket> buckets = new ArrayList<>();
        final List<Spout> spouts = new ArrayList<>();
        final List<int[]> frogs = new ArrayList<>();
        final List<int[]> spells = new ArrayList<>();
        final Long[] heard = new Long[8];
        int dry;
        Run real = new Run(this);

        boolean hasBucket(int b) {
            return 0 <= b && b < buckets.size();
        }

        boolean hasSpout(int s) {
            return 0 <= s && s < spouts.size();
        }

        static boolean out(int v, int low, int high) {
            return v < low || v > high;
        }

        int bucket(int size, int rest) {
            if (out(size, 1, 100) || out(rest, 0, 20)) return OUTSIDE;
            if (buckets.size() == 8) return FULL;
            Bucket made = new Bucket();
            made.size = size;
            made.rest = rest;
            buckets.add(made);
            return buckets.size() - 1;
        }

        int pipe(int b, int to, int delay) {
            if (!hasBucket(b)) return UNKNOWN;
            if (to != NONE && !hasBucket(to)) return UNKNOWN;
            if (out(delay, 1, 20)) return OUTSIDE;
            buckets.get(b).to = to;
            buckets.get(b).delay = delay;
            return 1;
        }

        int spout(int to, int drop, int every, int first) {
            if (!hasBucket(to)) return UNKNOWN;
            if (out(drop, 0, 20) || out(every, 1, 30) || out(first, 0, 30)) return OUTSIDE;
            if (spouts.size() == 4) return FULL;
            Spout made = new Spout();
            made.to = to;
            made.drop = drop;
            made.every = every;
            made.first = first;
            spouts.add(made);
            return spouts.size() - 1;
        }

        int turn(int s, int v) {
            if (!hasSpout(s)) return UNKNOWN;
            if (out(v, 0, 20)) return OUTSIDE;
            int was = spouts.get(s).drop;
            spouts.get(s).drop = v;
            return was;
        }

        int frog(int s, int from, int to) {
            if (!hasSpout(s)) return UNKNOWN;
            if (out(from, 0, 2000) || out(to, 0, 2000) || to < from) return OUTSIDE;
            if (frogs.size() == 10) return FULL;
            frogs.add(new int[] {s, from, to});
            return frogs.size();
        }

        int weather(int from, int wet) {
            if (out(from, 0, 2000) || out(wet, -20, 20)) return OUTSIDE;
            if (spells.size() == 10) return FULL;
            spells.add(new int[] {from, wet});
            return spells.size();
        }

        int dry(int v) {
            if (out(v, 0, 50)) return OUTSIDE;
            int was = dry;
            dry = v;
            return was;
        }

        int told(int b, int what) {
            if (!hasBucket(b)) return UNKNOWN;
            if (out(what, 0, 8)) return OUTSIDE;
            Bucket it = buckets.get(b);
            int[] answers = {it.size, it.rest, it.to, it.to == NONE ? NONE : it.delay, real.holds[b],
                    Math.max(0, real.upFrom[b] - real.now), real.knocksOf(b), real.lastOf(b), real.onTheWay(b)};
            return answers[what];
        }

        int count(int what) {
            if (out(what, 0, 11)) return OUTSIDE;
            int knocks = 0, held = 0, inPipes = 0, rows = 0;
            for (int b = 0; b < 8; b++) {
                knocks += real.knocksOf(b);
                held += real.holds[b];
                inPipes += real.onTheWay(b);
                rows += heard[b] == null ? 0 : 1;
            }
            int[] answers = {real.now, buckets.size(), spouts.size(), frogs.size(), spells.size(), knocks,
                    real.dripped, held, inPipes, real.brook, real.lost, rows};
            return answers[what];
        }

        int tick(int n) {
            if (out(n, 0, 200)) return OUTSIDE;
            if (real.now + n > 2000) return NOT;
            int before = count(5);
            for (int i = 0; i < n; i++) real.tick();
            return count(5) - before;
        }

        int again() {
            int done = real.now;
            real = new Run(this);
            return done;
        }

        Run run(boolean plain, int ticks, List<Integer> faults) {
            Run made = new Run(this);
            made.plain = plain;
            made.faults = faults;
            for (int i = 0; i < ticks; i++) made.tick();
            return made;
        }

        long row(int b, boolean plain) {
            return hasBucket(b) ? run(plain, 60, List.of()).rowOf(b) : UNKNOWN;
        }

        int round(int what) {
            if (out(what, 0, 1)) return OUTSIDE;
            Run run = new Run(this);
            run.plain = true;
            int[][] states = new int[1001][];
            for (int t = 0; t <= 1000; t++) {
                states[t] = run.state();
                run.tick();
            }
            for (int a = 31; a <= 1000; a++) {
                for (int n = 1; a + n <= 1000; n++) {
                    if (goesRound(n) && Arrays.equals(states[a], states[a + n])) return what == 0 ? a : n;
                }
            }
            return NONE;
        }

        private boolean goesRound(int n) {
            for (Spout spout : spouts) {
                if (n % spout.every != 0) return false;
            }
            return dry == 0 || n % dry == 0;
        }

        int meeting(int b, int c) {
            if (!hasBucket(b) || !hasBucket(c)) return UNKNOWN;
            if (b == c) return NOT;
            Run run = run(true, 1000, List.of());
            for (int t = 0; t < 1000; t++) {
                if (run.knocked[t][b] && run.knocked[t][c]) return t;
            }
            return NONE;
        }

        static int drip(long wish, int size, int rest, int what) {
            if (out(size, 1, 100) || out(rest, 0, 20) || out(what, 0, 2) || wish < 0 || wish >= 1L << 60) return OUTSIDE;
            int[] best = null;
            for (int every = 8; every >= 1; every--) {
                for (int drop = 8; drop >= 1; drop--) {
                    Model lone = new Model();
                    lone.bucket(size, rest);
                    lone.spout(0, drop, every, 0);
                    int[] found = {drop, every, off(wish, lone.row(0, false))};
                    boolean better = best == null || found[2] < best[2]
                            || found[2] == best[2] && (drop < best[0] || drop == best[0] && every < best[1]);
                    if (better) best = found;
                }
            }
            return best[what];
        }

        private static int off(long wish, long row) {
            int least = 1000;
            for (int h = -5; h <= 5; h++) {
                int off = h < 0 ? -h : h;
                for (int t = 0; t < 60; t++) {
                    boolean wanted = (wish >> t) % 2 != 0;
                    boolean there = t - h >= 0 && t - h <= 59 && (row >> t - h) % 2 != 0;
                    if (wanted != there) off++;
                }
                least = Math.min(least, off);
            }
            return least;
        }

        int hear(int b, long row) {
            if (!hasBucket(b)) return UNKNOWN;
            if (row < 0 || row >= 1L << 60) return OUTSIDE;
            heard[b] = row;
            return count(11);
        }

        int hush() {
            int were = count(11);
            Arrays.fill(heard, null);
            return were;
        }

        int blamed(int what) {
            if (out(what, 0, 3)) return OUTSIDE;
            List<List<Integer>> sets = new ArrayList<>();
            sets.add(List.of());
            List<Integer> faults = faults();
            for (int fault : faults) sets.add(List.of(fault));
            for (int i = 0; i < faults.size(); i++) {
                for (int j = i + 1; j < faults.size(); j++) sets.add(List.of(faults.get(i), faults.get(j)));
            }
            for (int many = 0; many <= 2; many++) {
                List<List<Integer>> fit = new ArrayList<>();
                for (List<Integer> set : sets) {
                    if (set.size() == many && fits(set)) fit.add(set);
                }
                if (!fit.isEmpty()) {
                    List<Integer> first = fit.get(0);
                    int[] answers = {many, fit.size(), many > 0 ? first.get(0) : NONE, many > 1 ? first.get(1) : NONE};
                    return answers[what];
                }
            }
            return what == 1 ? 0 : NONE;
        }

        private List<Integer> faults() {
            List<Integer> faults = new ArrayList<>();
            for (int s = 0; s < spouts.size(); s++) faults.add(s);
            for (int b = 0; b < buckets.size(); b++) faults.add(10 + b);
            for (int b = 0; b < buckets.size(); b++) faults.add(20 + b);
            return faults;
        }

        private boolean fits(List<Integer> faults) {
            Run run = run(false, 60, faults);
            for (int b = 0; b < 8; b++) {
                if (heard[b] != null && heard[b] != run.rowOf(b)) return false;
            }
            return true;
        }

        int mended(int b, int n, int ticks, int s) {
            if (!hasBucket(b) || s != NONE && !hasSpout(s)) return UNKNOWN;
            if (out(n, 0, 200) || out(ticks, 1, 200)) return OUTSIDE;
            int[] best = null;
            int[] change = new int[4];
            for (change[0] = -2; change[0] <= 2; change[0]++) {
                for (change[1] = -2; change[1] <= 2; change[1]++) {
                    for (change[2] = -2; change[2] <= 2; change[2]++) {
                        for (change[3] = -2; change[3] <= 2; change[3]++) {
                            boolean better = best == null || sizes(change) < sizes(best);
                            if (better && knocks(change, b, ticks) == n) best = change.clone();
                        }
                    }
                }
            }
            if (s == NONE) return best == null ? NONE : sizes(best);
            return best == null ? 0 : best[s];
        }

        private static int sizes(int[] change) {
            int sum = 0;
            for (int c : change) sum += Math.abs(c);
            return sum;
        }

        /** -1 if the spouts can't be turned so. */
        private int knocks(int[] change, int b, int ticks) {
            for (int s = 0; s < 4; s++) {
                if (s >= spouts.size() ? change[s] != 0 : out(spouts.get(s).drop + change[s], 0, 20)) return -1;
            }
            for (int s = 0; s < spouts.size(); s++) spouts.get(s).drop += change[s];
            int knocks = run(false, ticks, List.of()).knocksOf(b);
            for (int s = 0; s < spouts.size(); s++) spouts.get(s).drop -= change[s];
            return knocks;
        }
    }

    private static final class Run {
        final Model model;
        boolean plain;
        List<Integer> faults = List.of();
        int now, dripped, brook, lost;
        final int[] holds = new int[8];
        final int[] upFrom = new int[8];
        final int[][] arrives = new int[2100][];
        final boolean[][] knocked = new boolean[2100][];

        Run(Model model) {
            this.model = model;
        }

        boolean up(int b) {
            return now >= upFrom[b];
        }

        void come(int b, int water) {
            if (up(b)) {
                holds[b] += water;
            } else {
                brook += water;
            }
        }

        void tick() {
            knocked[now] = new boolean[8];
            for (int s = 0; s < model.spouts.size(); s++) {
                Spout spout = model.spouts.get(s);
                if (dripsAt(s, spout)) {
                    int water = spout.drop + wet();
                    if (water > 0) {
                        dripped += water;
                        come(spout.to, water);
                    }
                }
            }
            for (int b = 0; arrives[now] != null && b < 8; b++) come(b, arrives[now][b]);
            for (int b = 0; b < 8; b++) {
                if (model.dry != 0 && now % model.dry == 0 && up(b) && holds[b] > 0) {
                    holds[b]--;
                    lost++;
                }
            }
            for (int b = 0; b < model.buckets.size(); b++) {
                Bucket it = model.buckets.get(b);
                if (up(b) && holds[b] >= it.size && !faults.contains(10 + b)) {
                    knocked[now][b] = true;
                    if (it.to == NONE || faults.contains(20 + b)) {
                        brook += holds[b];
                    } else {
                        if (arrives[now + it.delay] == null) arrives[now + it.delay] = new int[8];
                        arrives[now + it.delay][it.to] += holds[b];
                    }
                    holds[b] = 0;
                    upFrom[b] = now + it.rest + 1;
                }
            }
            now++;
        }

        private boolean dripsAt(int s, Spout spout) {
            if (faults.contains(s)) return false;
            boolean due = false;
            for (int t = spout.first; t <= now; t += spout.every) due = t == now;
            for (int[] frog : model.frogs) {
                if (!plain && frog[0] == s && frog[1] <= now && now <= frog[2]) return false;
            }
            return due;
        }

        private int wet() {
            for (int t = now; t >= 0 && !plain; t--) {
                for (int i = model.spells.size() - 1; i >= 0; i--) {
                    if (model.spells.get(i)[0] == t) return model.spells.get(i)[1];
                }
            }
            return 0;
        }

        int knocksOf(int b) {
            int knocks = 0;
            for (int t = 0; t < now; t++) knocks += knocked[t][b] ? 1 : 0;
            return knocks;
        }

        int lastOf(int b) {
            int last = NONE;
            for (int t = 0; t < now; t++) last = knocked[t][b] ? t : last;
            return last;
        }

        int onTheWay(int b) {
            int water = 0;
            for (int t = now; t < now + 30; t++) water += arrives[t] == null ? 0 : arrives[t][b];
            return water;
        }

        long rowOf(int b) {
            long row = 0;
            for (int t = 0; t < 60; t++) row += knocked[t][b] ? 1L << t : 0;
            return row;
        }

        int[] state() {
            int[] state = new int[8 * 23];
            for (int b = 0; b < 8; b++) {
                state[b * 23] = holds[b];
                state[b * 23 + 1] = Math.max(0, upFrom[b] - now);
                for (int i = 0; i < 21; i++) state[b * 23 + 2 + i] = arrives[now + i] == null ? 0 : arrives[now + i][b];
            }
            return state;
        }
    }

    private static final class Player {
        final int run;
        final Numbers numbers;
        final Model model = new Model();
        final TickGarden garden = new TickGarden();
        /** What size of water and of times the run likes: small ones make much happen. */
        final int mostSize, mostEvery, mostRest;

        Player(int run) {
            this.run = run;
            numbers = new Numbers(run * 7919L + 17);
            numbers.below(2);
            mostSize = numbers.oneIn(3) ? 100 : 15;
            mostEvery = numbers.oneIn(3) ? 30 : 6;
            mostRest = numbers.oneIn(3) ? 20 : 3;
        }

        int calls = 0;

        void due(long got, long want, String call, long... args) {
            calls++;
            if (got != want) {
                wrong++;
                System.out.println("run " + run + ": " + call + Arrays.toString(args) + " answered " + got + ", due is " + want);
            }
        }

        int aBucket() {
            return numbers.oneIn(40) ? numbers.near(-2, 8) : numbers.below(Math.max(1, model.buckets.size()));
        }

        int aSpout() {
            return numbers.oneIn(40) ? numbers.near(-2, 4) : numbers.below(Math.max(1, model.spouts.size()));
        }

        void addBucket() {
            int size = numbers.oneIn(20) ? numbers.near(1, 100) : numbers.from(1, mostSize);
            int rest = numbers.oneIn(20) ? numbers.near(0, 20) : numbers.from(0, mostRest);
            due(garden.bucket(size, rest), model.bucket(size, rest), "bucket", size, rest);
        }

        void addPipe() {
            int b = aBucket();
            int to = numbers.oneIn(6) ? NONE : aBucket();
            int delay = numbers.oneIn(4) ? numbers.near(1, 20) : numbers.from(1, 20);
            due(garden.pipe(b, to, delay), model.pipe(b, to, delay), "pipe", b, to, delay);
        }

        void addSpout() {
            int to = aBucket();
            int drop = numbers.oneIn(8) ? numbers.near(0, 20) : numbers.from(1, 6);
            int every = numbers.oneIn(20) ? numbers.near(1, 30) : numbers.from(1, mostEvery);
            int first = numbers.oneIn(3) ? numbers.near(0, 30) : numbers.from(0, 5);
            due(garden.spout(to, drop, every, first), model.spout(to, drop, every, first), "spout", to, drop, every, first);
        }

        void turn() {
            int s = aSpout();
            int v = numbers.near(0, 20);
            due(garden.turn(s, v), model.turn(s, v), "turn", s, v);
        }

        void addFrog() {
            int s = aSpout();
            int from = numbers.oneIn(4) ? numbers.near(0, 2000) : numbers.near(0, 70);
            int to = numbers.oneIn(8) ? numbers.near(0, 2000) : from + numbers.from(numbers.oneIn(4) ? -1 : 0, 25);
            due(garden.frog(s, from, to), model.frog(s, from, to), "frog", s, from, to);
        }

        void addSpell() {
            int from = numbers.oneIn(4) ? numbers.near(0, 2000) : numbers.from(0, 12) * 5;
            int wet = numbers.oneIn(4) ? numbers.near(-20, 20) : numbers.from(-3, 3);
            due(garden.weather(from, wet), model.weather(from, wet), "weather", from, wet);
        }

        void setDry() {
            int v = numbers.oneIn(3) ? 0 : numbers.near(0, numbers.oneIn(2) ? 50 : 8);
            due(garden.dry(v), model.dry(v), "dry", v);
        }

        void tellAll() {
            for (int what = -1; what <= 12; what++) due(garden.count(what), model.count(what), "count", what);
            int b = aBucket();
            for (int what = -1; what <= 9; what++) due(garden.told(b, what), model.told(b, what), "told", b, what);
        }

        void ticks() {
            int n = numbers.oneIn(4) ? numbers.near(0, 200) : numbers.from(0, 12);
            due(garden.tick(n), model.tick(n), "tick", n);
        }

        void again() {
            due(garden.again(), model.again(), "again");
        }

        void rows() {
            int b = aBucket();
            boolean plain = numbers.oneIn(2);
            due(garden.row(b, plain), model.row(b, plain), "row", b, plain ? 1 : 0);
        }

        void rounds() {
            int what = numbers.oneIn(10) ? numbers.near(0, 1) : 0;
            due(garden.round(what), model.round(what), "round", what);
            due(garden.round(1), model.round(1), "round", 1);
        }

        void meetings() {
            int b = aBucket();
            int c = aBucket();
            due(garden.meeting(b, c), model.meeting(b, c), "meeting", b, c);
        }

        void drips() {
            int size = numbers.oneIn(10) ? numbers.near(1, 100) : numbers.from(1, 30);
            int rest = numbers.oneIn(10) ? numbers.near(0, 20) : numbers.from(0, 6);
            int what = numbers.oneIn(20) ? numbers.near(0, 2) : numbers.from(0, 2);
            long wish = aWish();
            due(garden.drip(wish, size, rest, what), Model.drip(wish, size, rest, what), "drip", wish, size, rest, what);
        }

        long aWish() {
            if (numbers.oneIn(12)) return numbers.oneIn(2) ? 1L << numbers.from(58, 63) : 0;
            long wish = 0;
            int step = numbers.from(1, 14);
            for (int t = numbers.from(0, 8); t < 60; t += numbers.oneIn(9) ? numbers.from(1, 14) : step) wish |= 1L << t;
            return numbers.oneIn(4) ? wish & numbers.bits() : wish;
        }

        /** Mostly what a garden with a fault or two would be heard like, so that there is somebody to blame. */
        void hear() {
            int b = aBucket();
            long row = numbers.oneIn(8) ? aWish() : 0;
            due(garden.hear(b, row), model.hear(b, row), "hear", b, row);
        }

        void hearFaulty() {
            List<Integer> all = model.faults();
            List<Integer> faults = new ArrayList<>();
            for (int i = numbers.from(0, numbers.oneIn(4) ? 3 : 2); i > 0 && !all.isEmpty(); i--) faults.add(all.get(numbers.below(all.size())));
            Run run = model.run(false, 60, faults);
            for (int b = 0; b < model.buckets.size(); b++) {
                if (!numbers.oneIn(3)) due(garden.hear(b, run.rowOf(b)), model.hear(b, run.rowOf(b)), "hear", b, run.rowOf(b));
            }
            blames();
        }

        void blames() {
            for (int what = numbers.oneIn(10) ? -1 : 0; what <= (numbers.oneIn(10) ? 4 : 3); what++) {
                due(garden.blamed(what), model.blamed(what), "blamed", what);
            }
        }

        void hush() {
            due(garden.hush(), model.hush(), "hush");
        }

        void mends() {
            int b = aBucket();
            int ticks = numbers.oneIn(6) ? numbers.near(1, 200) : numbers.from(10, 70);
            int[] none = new int[4];
            int as = model.hasBucket(b) && ticks > 0 && ticks <= 200 ? model.knocks(none, b, ticks) : 0;
            int n = numbers.oneIn(6) ? numbers.near(0, 200) : as + numbers.from(-4, 4);
            due(garden.mended(b, n, ticks, NONE), model.mended(b, n, ticks, NONE), "mended", b, n, ticks, NONE);
            int s = aSpout();
            due(garden.mended(b, n, ticks, s), model.mended(b, n, ticks, s), "mended", b, n, ticks, s);
        }

        void build() {
            for (int i = numbers.from(1, numbers.oneIn(6) ? 9 : 4); i > 0; i--) addBucket();
            for (int i = numbers.from(0, numbers.oneIn(6) ? 5 : 3); i > 0; i--) addSpout();
            for (int i = numbers.from(0, 4); i > 0; i--) addPipe();
            for (int i = numbers.oneIn(2) ? 0 : numbers.from(0, 11); i > 0; i--) addFrog();
            for (int i = numbers.oneIn(2) ? 0 : numbers.from(0, 11); i > 0; i--) addSpell();
            if (numbers.oneIn(2)) setDry();
        }

        void oneCall() {
            switch (numbers.below(60)) {
                case 0: case 1: addBucket(); break;
                case 2: case 3: case 4: addPipe(); break;
                case 5: case 6: addSpout(); break;
                case 7: case 8: case 9: turn(); break;
                case 10: case 11: addFrog(); break;
                case 12: case 13: addSpell(); break;
                case 14: setDry(); break;
                case 15: again(); break;
                case 16: case 17: case 18: case 19: rows(); break;
                case 20: rounds(); break;
                case 21: case 22: meetings(); break;
                case 23: drips(); break;
                case 24: case 25: hear(); break;
                case 26: hearFaulty(); break;
                case 27: blames(); break;
                case 28: hush(); break;
                case 29: if (numbers.oneIn(8)) mends(); break;
                case 30: case 31: case 32: case 33: case 34: tellAll(); break;
                default: ticks(); break;
            }
        }

        void play() {
            if (!numbers.oneIn(10)) build();
            for (int i = 0; i < ROUNDS_OF_CALLS && calls < LAST_CALLS_FROM; i++) oneCall();
            tellAll();
            if (calls > 512) throw new IllegalStateException("a run of " + calls + " calls");
        }
    }

    private static int wrong = 0;

    public static void main(String[] args) {
        for (int run = 0; run < RUNS && wrong < 20; run++) {
            new Player(run).play();
        }
        System.out.println(wrong == 0 ? RUNS + " runs are as the model's" : "not all answers are the model's");
        if (wrong != 0) {
            System.exit(1);
        }
    }
}
