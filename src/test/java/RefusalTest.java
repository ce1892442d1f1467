import java.util.ArrayList;
import java.util.Arrays;
import java.util.List;

/**
 * Each call with every mix of edges of what it takes, in gardens from the empty to the full one: which refusal is due
 * (of several the first: UNKNOWN, OUTSIDE, NOT, FULL), and that what is refused changes nothing that can be seen.
 */
public final class RefusalTest {
    private static final int NONE = -1, UNKNOWN = -1001, OUTSIDE = -1002, NOT = -1003, FULL = -1004;
    private static final int LOW = Integer.MIN_VALUE, HIGH = Integer.MAX_VALUE;
    /** So many refused calls for one garden: with its making and all looks at it they stay below 512. */
    private static final int BATCH = 150;

    private static int wrong = 0;
    private static int asked = 0;
    private static final int[] refusals = new int[4];

    /** A garden as it is made anew for each look, and what of it settles refusals. */
    private static final class Kind {
        final String name;
        final int buckets, spouts, frogs, spells, heard, now;

        Kind(String name, int buckets, int spouts, int frogs, int spells, int heard, int now) {
            this.name = name;
            this.buckets = buckets;
            this.spouts = spouts;
            this.frogs = frogs;
            this.spells = spells;
            this.heard = heard;
            this.now = now;
        }

        TickGarden made() {
            TickGarden x = new TickGarden();
            for (int b = 0; b < buckets; b++) x.bucket(1 + 5 * b, 2 * b);
            for (int b = 0; b + 1 < buckets; b++) x.pipe(b, b + 1, 20 - b);
            for (int s = 0; s < spouts; s++) x.spout(s, 5 + s, 1 + s, 7 * s);
            for (int f = 0; f < frogs; f++) x.frog(f % spouts, 10 * f, 10 * f + f);
            for (int i = 0; i < spells; i++) x.weather(8 * i, i - 4);
            for (int b = 0; b < heard; b++) x.hear(b, x.row(b, false));
            if (buckets > 2) x.dry(3);
            for (int t = 0; t + 200 <= now; t += 200) x.tick(200);
            x.tick(now % 200);
            return x;
        }
    }

    private static final Kind[] KINDS = {
        new Kind("empty", 0, 0, 0, 0, 0, 0),
        new Kind("empty and at its end", 0, 0, 0, 0, 0, 2000),
        new Kind("one bucket", 1, 0, 0, 1, 1, 5),
        new Kind("small", 2, 1, 1, 1, 1, 33),
        new Kind("one place left", 7, 3, 9, 9, 7, 1800),
        new Kind("full", 8, 4, 10, 10, 8, 1801),
        new Kind("full and at its end", 8, 4, 10, 10, 8, 2000),
    };

    /** What an argument is taken for. */
    private enum Sort { BUCKET, BUCKET_OR_NONE, SPOUT, SPOUT_OR_NONE, NUMBER, ROW, ANY }

    private static final class Taken {
        final Sort sort;
        final int low, high;

        Taken(Sort sort, int low, int high) {
            this.sort = sort;
            this.low = low;
            this.high = high;
        }

        long[] edges(Kind kind) {
            switch (sort) {
                case NUMBER: return new long[] {LOW, low - 1, low, high, high + 1, HIGH};
                case ROW: return new long[] {Long.MIN_VALUE, -1, 0, (1L << 60) - 1, 1L << 60, Long.MAX_VALUE};
                case ANY: return new long[] {0, 1};
                default: return places(sort == Sort.BUCKET || sort == Sort.BUCKET_OR_NONE ? kind.buckets : kind.spouts);
            }
        }

        private static long[] places(int many) {
            long[] all = {LOW, -2, NONE, 0, many - 1, many, 8, HIGH};
            return Arrays.stream(all).distinct().toArray();
        }

        boolean isUnknown(Kind kind, long v) {
            switch (sort) {
                case BUCKET: return v < 0 || v >= kind.buckets;
                case SPOUT: return v < 0 || v >= kind.spouts;
                case BUCKET_OR_NONE: return v != NONE && (v < 0 || v >= kind.buckets);
                case SPOUT_OR_NONE: return v != NONE && (v < 0 || v >= kind.spouts);
                default: return false;
            }
        }

        boolean isOutside(long v) {
            switch (sort) {
                case NUMBER: return v < low || v > high;
                case ROW: return v < 0 || v > (1L << 60) - 1;
                default: return false;
            }
        }
    }

    private static Taken one(Sort sort) {
        return new Taken(sort, 0, 0);
    }

    private static Taken number(int low, int high) {
        return new Taken(Sort.NUMBER, low, high);
    }

    private static final String[] CALLS = {"bucket", "pipe", "spout", "turn", "frog", "weather", "dry", "told", "count",
        "tick", "again", "row", "round", "meeting", "drip", "hear", "hush", "blamed", "mended"};

    private static Taken[] taken(String call) {
        switch (call) {
            case "bucket": return new Taken[] {number(1, 100), number(0, 20)};
            case "pipe": return new Taken[] {one(Sort.BUCKET), one(Sort.BUCKET_OR_NONE), number(1, 20)};
            case "spout": return new Taken[] {one(Sort.BUCKET), number(0, 20), number(1, 30), number(0, 30)};
            case "turn": return new Taken[] {one(Sort.SPOUT), number(0, 20)};
            case "frog": return new Taken[] {one(Sort.SPOUT), number(0, 2000), number(0, 2000)};
            case "weather": return new Taken[] {number(0, 2000), number(-20, 20)};
            case "dry": return new Taken[] {number(0, 50)};
            case "told": return new Taken[] {one(Sort.BUCKET), number(0, 8)};
            case "count": return new Taken[] {number(0, 11)};
            case "tick": return new Taken[] {number(0, 200)};
            case "row": return new Taken[] {one(Sort.BUCKET), one(Sort.ANY)};
            case "round": return new Taken[] {number(0, 1)};
            case "meeting": return new Taken[] {one(Sort.BUCKET), one(Sort.BUCKET)};
            case "drip": return new Taken[] {one(Sort.ROW), number(1, 100), number(0, 20), number(0, 2)};
            case "hear": return new Taken[] {one(Sort.BUCKET), one(Sort.ROW)};
            case "blamed": return new Taken[] {number(0, 3)};
            case "mended": return new Taken[] {one(Sort.BUCKET), number(0, 200), number(1, 200), one(Sort.SPOUT_OR_NONE)};
            default: return new Taken[0];
        }
    }

    /** What only some calls refuse, beside places that there are not and numbers out of their own bounds. */
    private static long due(Kind kind, String call, Taken[] taken, long[] a) {
        boolean outside = call.equals("frog") && a[2] < a[1];
        for (int i = 0; i < a.length; i++) {
            if (taken[i].isUnknown(kind, a[i])) return UNKNOWN;
            outside |= taken[i].isOutside(a[i]);
        }
        if (outside) return OUTSIDE;
        switch (call) {
            case "tick": return kind.now + a[0] > 2000 ? NOT : 0;
            case "meeting": return a[0] == a[1] ? NOT : 0;
            case "bucket": return kind.buckets == 8 ? FULL : 0;
            case "spout": return kind.spouts == 4 ? FULL : 0;
            case "frog": return kind.frogs == 10 ? FULL : 0;
            case "weather": return kind.spells == 10 ? FULL : 0;
            default: return 0;
        }
    }

    private static long answer(TickGarden x, String call, long[] a) {
        int[] i = new int[a.length];
        for (int k = 0; k < a.length; k++) i[k] = (int) a[k];
        switch (call) {
            case "bucket": return x.bucket(i[0], i[1]);
            case "pipe": return x.pipe(i[0], i[1], i[2]);
            case "spout": return x.spout(i[0], i[1], i[2], i[3]);
            case "turn": return x.turn(i[0], i[1]);
            case "frog": return x.frog(i[0], i[1], i[2]);
            case "weather": return x.weather(i[0], i[1]);
            case "dry": return x.dry(i[0]);
            case "told": return x.told(i[0], i[1]);
            case "count": return x.count(i[0]);
            case "tick": return x.tick(i[0]);
            case "again": return x.again();
            case "row": return x.row(i[0], a[1] == 1);
            case "round": return x.round(i[0]);
            case "meeting": return x.meeting(i[0], i[1]);
            case "drip": return x.drip(a[0], i[1], i[2], i[3]);
            case "hear": return x.hear(i[0], a[1]);
            case "hush": return x.hush();
            case "blamed": return x.blamed(i[0]);
            default: return x.mended(i[0], i[1], i[2], i[3]);
        }
    }

    /** All that the calls tell of a garden, now and from its beginning on. */
    private static long[] allSeen(TickGarden x, Kind kind) {
        List<Long> seen = new ArrayList<>();
        countAll(x, seen);
        for (int b = 0; b < kind.buckets; b++) {
            for (int what = 0; what <= 8; what++) seen.add((long) x.told(b, what));
            seen.add(x.row(b, true));
            seen.add(x.row(b, false));
        }
        for (int what = 0; what <= 1; what++) seen.add((long) x.round(what));
        for (int what = 0; what <= 3; what++) seen.add((long) x.blamed(what));
        seen.add((long) x.meeting(0, 1));
        seen.add((long) x.mended(0, 30, 60, NONE));
        seen.add((long) x.again());
        for (int i = 0; i < 10; i++) {
            seen.add((long) x.tick(200));
            seen.add((long) x.count(6));
            seen.add((long) x.count(10));
        }
        countAll(x, seen);
        seen.add((long) x.dry(0));
        for (int s = 0; s < kind.spouts; s++) seen.add((long) x.turn(s, 0));
        for (int b = 0; b < kind.buckets; b++) x.hear(b, 0);
        seen.add((long) x.blamed(0));
        seen.add((long) x.hush());
        return seen.stream().mapToLong(Long::longValue).toArray();
    }

    private static void countAll(TickGarden x, List<Long> seen) {
        for (int what = 0; what <= 11; what++) seen.add((long) x.count(what));
    }

    private static List<long[]> mixes(Kind kind, Taken[] taken) {
        List<long[]> mixes = new ArrayList<>();
        mixes.add(new long[0]);
        for (Taken next : taken) {
            List<long[]> longer = new ArrayList<>();
            for (long[] mix : mixes) {
                for (long edge : next.edges(kind)) {
                    long[] more = Arrays.copyOf(mix, mix.length + 1);
                    more[mix.length] = edge;
                    longer.add(more);
                }
            }
            mixes = longer;
        }
        return mixes;
    }

    private static void tell(Kind kind, String call, long[] a, String fault) {
        wrong++;
        if (wrong < 40) System.out.println(kind.name + ": " + call + Arrays.toString(a) + " " + fault);
    }

    /** The refused calls go into gardens of their own, and those are to look like untouched ones afterwards. */
    private static void check(Kind kind, String call) {
        Taken[] taken = taken(call);
        long[] untouched = allSeen(kind.made(), kind);
        TickGarden refusing = kind.made();
        int refused = 0;
        for (long[] a : mixes(kind, taken)) {
            long due = due(kind, call, taken, a);
            asked++;
            if (due == 0) {
                if (answer(kind.made(), call, a) < NONE) tell(kind, call, a, "is refused");
                continue;
            }
            refusals[(int) (UNKNOWN - due)]++;
            long got = answer(refusing, call, a);
            if (got != due) tell(kind, call, a, "answered " + got + ", due is " + due);
            refused++;
            if (refused == BATCH) {
                lookAt(kind, call, refusing, untouched);
                refusing = kind.made();
                refused = 0;
            }
        }
        lookAt(kind, call, refusing, untouched);
    }

    private static void lookAt(Kind kind, String call, TickGarden refusing, long[] untouched) {
        if (!Arrays.equals(untouched, allSeen(refusing, kind))) {
            tell(kind, call, new long[0], "was refused and changed the garden");
        }
    }

    public static void main(String[] args) {
        for (Kind kind : KINDS) {
            for (String call : CALLS) check(kind, call);
        }
        System.out.println(wrong == 0 ? asked + " calls are taken or refused as due, of the refusals "
                + Arrays.toString(refusals) : wrong + " calls are not as due");
        for (int many : refusals) {
            if (many == 0) wrong++;
        }
        if (wrong != 0) System.exit(1);
    }
}
