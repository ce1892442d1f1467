/** For each sentence of the document that names a boundary a test of its own, with answers worked out by hand. */
public final class BoundaryTest {
    private static final int NONE = -1, UNKNOWN = -1001, OUTSIDE = -1002, NOT = -1003, FULL = -1004;
    private static final long ALL = (1L << 60) - 1;
    private static final int LOW = Integer.MIN_VALUE, HIGH = Integer.MAX_VALUE;
    private static int wrong = 0;
    private static int asked = 0;
    private static int sentences = 0;
    private static String said = "";

    private static void sentence(String words) {
        said = words;
        sentences++;
    }

    private static void due(long want, long got) {
        asked++;
        if (got != want) {
            wrong++;
            int line = new Throwable().getStackTrace()[1].getLineNumber();
            System.out.println("\"" + said + "\", line " + line + ": answered " + got + ", due is " + want);
        }
    }

    private static long bits(int... ticks) {
        long row = 0;
        for (int t : ticks) row |= 1L << t;
        return row;
    }

    /** Bits from, from + step, .. below end. */
    private static long steps(int from, int step, int end) {
        long row = 0;
        for (int t = from; t < end; t += step) row |= 1L << t;
        return row;
    }

    private static TickGarden buckets(int many, int size, int rest) {
        TickGarden x = new TickGarden();
        for (int b = 0; b < many; b++) x.bucket(size, rest);
        return x;
    }

    /** A bucket that knocks at each drip, below one spout. */
    private static TickGarden lone(int drop, int every, int first) {
        TickGarden x = buckets(1, 1, 0);
        x.spout(0, drop, every, first);
        return x;
    }

    /** Does ticks, and answers the knocks in them. */
    private static int ticks(TickGarden x, int many) {
        int knocks = 0;
        int left = many;
        while (left > 200) {
            knocks += x.tick(200);
            left -= 200;
        }
        return knocks + x.tick(left);
    }

    // ---- numbers and refusals

    private static void numbersFromZeroOn() {
        sentence("What has a number has it from 0 on, as it comes.");
        TickGarden x = new TickGarden();
        for (int b = 0; b < 8; b++) due(b, x.bucket(b + 1, 0));
        for (int s = 0; s < 4; s++) due(s, x.spout(7 - s, s, 1, 0));
        for (int b = 0; b < 8; b++) due(b + 1, x.told(b, 0));
        for (int s = 0; s < 4; s++) due(s, x.turn(s, 0));
    }

    private static void ofSeveralTheFirst() {
        sentence("REFUSALS, of several the first in this order: UNKNOWN, OUTSIDE, NOT, FULL.");
        TickGarden x = buckets(8, 5, 5);
        for (int s = 0; s < 4; s++) x.spout(s, 1, 1, 0);
        for (int i = 0; i < 10; i++) {
            x.frog(3, 100, 100);
            x.weather(100, 1);
        }
        due(UNKNOWN, x.spout(8, 21, 31, 31));
        due(UNKNOWN, x.spout(8, 1, 1, 1));
        due(OUTSIDE, x.spout(7, 1, 1, 31));
        due(FULL, x.spout(7, 1, 1, 30));
        due(UNKNOWN, x.frog(4, 5, 4));
        due(UNKNOWN, x.frog(4, 4, 5));
        due(OUTSIDE, x.frog(3, 5, 4));
        due(FULL, x.frog(3, 5, 5));
        due(OUTSIDE, x.bucket(101, 20));
        due(FULL, x.bucket(100, 20));
        due(OUTSIDE, x.weather(2001, 20));
        due(FULL, x.weather(2000, 20));
        due(UNKNOWN, x.pipe(7, 8, 21));
        due(UNKNOWN, x.pipe(8, 7, 21));
        due(OUTSIDE, x.pipe(7, 7, 21));
        due(UNKNOWN, x.meeting(8, 8));
        due(UNKNOWN, x.meeting(7, 8));
        due(NOT, x.meeting(7, 7));
        due(UNKNOWN, x.hear(8, -1));
        due(OUTSIDE, x.hear(7, -1));
        due(UNKNOWN, x.mended(7, 201, 201, 4));
        due(UNKNOWN, x.mended(8, 201, 201, 3));
        due(OUTSIDE, x.mended(7, 201, 200, 3));
        due(UNKNOWN, x.told(8, 9));
        due(UNKNOWN, x.turn(4, 21));
        ticks(x, 2000);
        due(OUTSIDE, x.tick(201));
        due(OUTSIDE, x.tick(HIGH));
        due(OUTSIDE, x.tick(LOW));
        due(NOT, x.tick(200));
    }

    private static void whatIsRefusedChangesNothing() {
        sentence("What is refused changes nothing.");
        TickGarden x = lone(3, 2, 1);
        x.bucket(50, 0);
        x.pipe(0, 1, 4);
        x.hear(0, 5);
        x.dry(2);
        due(1, x.tick(2));
        due(OUTSIDE, x.bucket(0, 1));
        due(OUTSIDE, x.pipe(0, NONE, 0));
        due(UNKNOWN, x.pipe(0, 2, 9));
        due(OUTSIDE, x.spout(0, 21, 1, 0));
        due(OUTSIDE, x.turn(0, 21));
        due(OUTSIDE, x.frog(0, 9, 8));
        due(OUTSIDE, x.weather(0, 21));
        due(OUTSIDE, x.dry(51));
        due(OUTSIDE, x.tick(201));
        due(OUTSIDE, x.hear(0, 1L << 60));
        due(UNKNOWN, x.hear(2, 7));
        int[] counted = {2, 2, 1, 0, 0, 1, 3, 0, 3, 0, 0, 1};
        for (int what = 0; what < 12; what++) due(counted[what], x.count(what));
        due(1, x.told(0, 2));
        due(4, x.told(0, 3));
        due(steps(1, 2, 60), x.row(0, false));
        due(3, x.turn(0, 3));
        due(2, x.dry(2));
        due(1, x.hush());
    }

    private static void emptyGarden() {
        sentence("No BUCKETS, SPOUTS; NOW is 0.");
        TickGarden x = new TickGarden();
        for (int what = 0; what <= 11; what++) due(0, x.count(what));
        due(UNKNOWN, x.pipe(0, 0, 1));
        due(UNKNOWN, x.pipe(0, NONE, 1));
        due(UNKNOWN, x.spout(0, 1, 1, 0));
        due(UNKNOWN, x.turn(0, 0));
        due(UNKNOWN, x.frog(0, 0, 0));
        due(UNKNOWN, x.told(0, 0));
        due(UNKNOWN, x.row(0, false));
        due(UNKNOWN, x.meeting(0, 1));
        due(UNKNOWN, x.hear(0, 0));
        due(UNKNOWN, x.mended(0, 0, 1, NONE));
        due(0, x.hush());
        due(0, x.again());
        due(1, x.weather(0, 20));
        due(0, x.dry(50));
        due(31, x.round(0));
        due(50, x.round(1));
        due(0, x.blamed(0));
        due(1, x.blamed(1));
        due(NONE, x.blamed(2));
        due(NONE, x.blamed(3));
        due(1, x.drip(1, 1, 20, 0));
        due(0, ticks(x, 2000));
        due(0, x.count(6));
        due(0, x.count(10));
        due(2000, x.again());
    }

    private static void fullGarden() {
        sentence("a garden in which there is the most of all");
        TickGarden x = buckets(8, 100, 0);
        for (int s = 0; s < 4; s++) x.spout(0, 20, 1, 0);
        x.pipe(0, 0, 1);
        for (int i = 0; i < 10; i++) {
            x.weather(0, 20);
            x.frog(i % 4, 2000, 2000);
        }
        for (int b = 0; b < 8; b++) x.hear(b, b == 0 ? ALL : 0);
        // 160 come at each tick and go round with all that came before
        due(2000, ticks(x, 2000));
        int[] counted = {2000, 8, 4, 10, 10, 2000, 320000, 0, 320000, 0, 0, 8};
        for (int what = 0; what < 12; what++) due(counted[what], x.count(what));
        due(320000, x.told(0, 8));
        due(0, x.blamed(0));
        due(ALL, x.row(0, false));
        due(NONE, x.round(0));
        due(NONE, x.meeting(0, 7));
        due(0, x.mended(0, 200, 200, NONE));
        due(NONE, x.mended(7, 200, 200, NONE));
        // without their pipe all goes to the brook
        x.pipe(0, NONE, 1);
        x.again();
        ticks(x, 2000);
        due(320000, x.count(9));
        due(31, x.round(0));
        due(2, x.round(1));
    }

    // ---- what there is

    private static void nowAtMost2000() {
        sentence("NOW is the next one (0 at first, 2000 at most)");
        TickGarden x = lone(1, 1, 0);
        due(0, x.count(0));
        due(1, x.tick(1));
        due(1, x.count(0));
        due(0, x.told(0, 7));
        due(1999, ticks(x, 1999));
        due(2000, x.count(0));
        due(1999, x.told(0, 7));
        due(NOT, x.tick(1));
        due(NOT, x.tick(200));
        due(0, x.tick(0));
        due(2000, x.count(0));
        due(2000, x.count(5));
        due(2000, x.again());
        due(1, x.tick(1));
        ticks(x, 1800);
        due(NOT, x.tick(200));
        due(199, x.tick(199));
        due(2000, x.count(0));
    }

    private static void bucketsAtMost8() {
        sentence("BUCKETS (8 at most)");
        TickGarden x = buckets(7, 1, 0);
        due(UNKNOWN, x.spout(7, 1, 1, 0));
        due(7, x.bucket(2, 3));
        due(FULL, x.bucket(2, 3));
        due(8, x.count(1));
        due(0, x.spout(7, 2, 4, 0));
        due(1, x.pipe(7, 0, 1));
        due(steps(0, 4, 60), x.row(7, true));
        due(steps(1, 4, 60), x.row(0, true));
        due(UNKNOWN, x.told(8, 0));
        due(UNKNOWN, x.row(8, true));
    }

    private static void sizeIn1To100() {
        sentence("SIZE (1 .. 100)");
        TickGarden x = new TickGarden();
        for (int size : new int[] {0, 101, -1, LOW, HIGH}) due(OUTSIDE, x.bucket(size, 0));
        due(0, x.bucket(1, 0));
        due(1, x.bucket(100, 0));
        x.spout(0, 1, 30, 0);
        x.spout(1, 1, 1, 0);
        due(4, ticks(x, 99));
        due(99, x.told(1, 4));
        due(0, x.told(1, 6));
        due(1, x.tick(1));
        due(99, x.told(1, 7));
        due(0, x.told(1, 4));
    }

    private static void restIn0To20() {
        sentence("REST (0 .. 20)");
        TickGarden x = new TickGarden();
        for (int rest : new int[] {-1, 21, LOW, HIGH}) due(OUTSIDE, x.bucket(1, rest));
        due(0, x.bucket(1, 0));
        due(1, x.bucket(1, 20));
        x.spout(0, 1, 1, 0);
        x.spout(1, 1, 1, 0);
        due(ALL, x.row(0, true));
        due(bits(0, 21, 42), x.row(1, true));
        due(2, x.tick(1));
        due(0, x.told(0, 5));
        due(20, x.told(1, 5));
        due(20, x.tick(20));
        due(0, x.told(1, 5));
        // 21 of bucket 0 and 1 of bucket 1 knocked, 20 came while it was down
        due(42, x.count(9));
        due(2, x.tick(1));
        due(21, x.told(1, 7));
    }

    private static void pipeToItself() {
        sentence("THE PIPE of a BUCKET leads to a BUCKET (also to itself)");
        TickGarden x = lone(1, 30, 0);
        due(1, x.pipe(0, 0, 1));
        due(0, x.told(0, 2));
        due(1, x.told(0, 3));
        due(ALL, x.row(0, true));
        x = buckets(1, 1, 19);
        x.spout(0, 1, 30, 0);
        x.pipe(0, 0, 20);
        // what knocked at 0 comes at 20, the first tick at which the bucket is up; the drip at 30 is lost
        due(bits(0, 20, 40), x.row(0, true));
        x = buckets(1, 1, 20);
        x.spout(0, 1, 30, 0);
        x.pipe(0, 0, 20);
        due(bits(0, 30), x.row(0, true));
    }

    private static void delayIn1To20() {
        sentence("in a DELAY (1 .. 20)");
        TickGarden x = lone(1, 30, 0);
        x.bucket(1, 0);
        for (int delay : new int[] {0, 21, -1, LOW, HIGH}) due(OUTSIDE, x.pipe(0, 1, delay));
        due(NONE, x.told(0, 2));
        due(1, x.pipe(0, 1, 1));
        due(bits(1, 31), x.row(1, true));
        due(1, x.pipe(0, 1, 20));
        due(bits(20, 50), x.row(1, true));
        due(1, ticks(x, 20));
        due(1, x.told(1, 8));
        due(1, x.tick(1));
        due(0, x.told(1, 8));
    }

    private static void delayOfTheBrook() {
        sentence("NONE: THE BROOK; the DELAY has to be in its bounds all the same");
        TickGarden x = lone(1, 30, 0);
        x.pipe(0, 0, 7);
        for (int delay : new int[] {0, 21, -1, LOW, HIGH}) due(OUTSIDE, x.pipe(0, NONE, delay));
        due(0, x.told(0, 2));
        due(7, x.told(0, 3));
        due(1, x.pipe(0, NONE, 1));
        due(NONE, x.told(0, 2));
        due(NONE, x.told(0, 3));
        due(1, x.pipe(0, NONE, 20));
        due(UNKNOWN, x.pipe(0, -2, 1));
        due(UNKNOWN, x.pipe(NONE, NONE, 1));
        due(UNKNOWN, x.pipe(NONE, 0, 1));
    }

    private static void brookAtFirst() {
        sentence("or to THE BROOK (at first)");
        TickGarden x = lone(5, 30, 0);
        due(NONE, x.told(0, 2));
        due(NONE, x.told(0, 3));
        due(1, x.tick(1));
        due(5, x.count(9));
        due(0, x.count(8));
    }

    private static void spoutsAtMost4() {
        sentence("SPOUTS (4 at most)");
        TickGarden x = buckets(1, 10, 0);
        for (int s = 0; s < 3; s++) due(s, x.spout(0, s + 1, 30, 0));
        due(bits(30), x.row(0, true));
        due(UNKNOWN, x.turn(3, 4));
        due(3, x.spout(0, 4, 30, 0));
        due(FULL, x.spout(0, 4, 30, 0));
        due(4, x.count(2));
        // 1, 2, 3 and 4 at one tick are just 10
        due(bits(0, 30), x.row(0, true));
        due(UNKNOWN, x.turn(4, 4));
        due(4, x.turn(3, 3));
        due(bits(30), x.row(0, true));
    }

    private static void dropIn0To20() {
        sentence("with a DROP (0 .. 20)");
        TickGarden x = buckets(1, 100, 0);
        for (int drop : new int[] {-1, 21, LOW, HIGH}) due(OUTSIDE, x.spout(0, drop, 1, 0));
        due(0, x.count(2));
        due(0, x.spout(0, 0, 1, 0));
        due(0, x.tick(1));
        due(0, x.count(6));
        due(1, x.spout(0, 20, 1, 0));
        due(0, x.tick(1));
        due(20, x.count(6));
        for (int v : new int[] {-1, 21, LOW, HIGH}) due(OUTSIDE, x.turn(1, v));
        due(20, x.turn(1, 0));
        due(0, x.turn(1, 20));
        due(20, x.turn(1, 20));
    }

    private static void everyIn1To30() {
        sentence("EVERY (1 .. 30)");
        TickGarden x = buckets(2, 1, 0);
        for (int every : new int[] {0, 31, -1, LOW, HIGH}) due(OUTSIDE, x.spout(0, 1, every, 0));
        due(0, x.spout(0, 1, 1, 0));
        due(1, x.spout(1, 1, 30, 0));
        due(ALL, x.row(0, true));
        due(bits(0, 30), x.row(1, true));
    }

    private static void firstIn0To30() {
        sentence("and FIRST (0 .. 30): a SPOUT drips at TICKS FIRST, FIRST and EVERY, and so on");
        TickGarden x = buckets(3, 1, 0);
        for (int first : new int[] {-1, 31, LOW, HIGH}) due(OUTSIDE, x.spout(0, 1, 1, first));
        due(0, x.spout(0, 1, 29, 0));
        due(1, x.spout(1, 1, 29, 30));
        due(2, x.spout(2, 1, 30, 30));
        due(bits(0, 29, 58), x.row(0, true));
        due(bits(30, 59), x.row(1, true));
        due(bits(30), x.row(2, true));
        due(0, x.told(2, 6));
        ticks(x, 60);
        due(1, x.told(2, 6));
        x.tick(1);
        due(60, x.told(2, 7));
    }

    private static void frogsAtMost10() {
        sentence("FROGS (10 at most)");
        TickGarden x = lone(1, 1, 0);
        for (int f = 1; f <= 9; f++) due(f, x.frog(0, 0, 0));
        due(steps(1, 1, 60), x.row(0, false));
        due(10, x.frog(0, 7, 7));
        due(FULL, x.frog(0, 8, 8));
        due(10, x.count(3));
        due(steps(1, 1, 60) & ~bits(7), x.row(0, false));
    }

    private static void frogsFirstAndLastTick() {
        sentence("a SPOUT does not drip from one TICK to another one, both with it (0 .. 2000)");
        TickGarden x = lone(1, 1, 0);
        int[][] outside = {{-1, 5}, {0, 2001}, {2001, 2001}, {-1, -1}, {LOW, 0}, {0, HIGH}, {LOW, HIGH}, {HIGH, LOW}};
        for (int[] it : outside) due(OUTSIDE, x.frog(0, it[0], it[1]));
        due(0, x.count(3));
        due(1, x.frog(0, 10, 12));
        due(ALL & ~bits(10, 11, 12), x.row(0, false));
        due(2, x.frog(0, 0, 0));
        due(3, x.frog(0, 59, 59));
        due(steps(1, 1, 59) & ~bits(10, 11, 12), x.row(0, false));
        due(4, x.frog(0, 2000, 2000));
        due(1999 - 4, ticks(x, 2000));
        due(1999, x.told(0, 7));
        due(5, x.frog(0, 1999, 2000));
        x.again();
        due(1999 - 5, ticks(x, 2000));
        due(1998, x.told(0, 7));
        due(6, x.frog(0, 0, 2000));
        x.again();
        due(0, ticks(x, 2000));
        due(0, x.count(6));
    }

    private static void frogSitsOnOneSpout() {
        sentence("FROGS .. : a SPOUT does not drip");
        for (int s = 0; s < 4; s++) {
            TickGarden x = buckets(4, 1, 0);
            for (int i = 0; i < 4; i++) x.spout(i, 1, 1, 0);
            for (int wrongOne : new int[] {4, -1, LOW, HIGH}) due(UNKNOWN, x.frog(wrongOne, 0, 0));
            due(1, x.frog(s, 0, 2000));
            for (int b = 0; b < 4; b++) due(b == s ? 0 : ALL, x.row(b, false));
        }
    }

    private static void frogGoesAheadOfItsComing() {
        sentence("OUTSIDE (also: it goes ahead of its coming)");
        TickGarden x = lone(1, 1, 0);
        due(OUTSIDE, x.frog(0, 6, 5));
        due(OUTSIDE, x.frog(0, 1, 0));
        due(OUTSIDE, x.frog(0, 2000, 1999));
        due(OUTSIDE, x.frog(0, 2000, 0));
        due(0, x.count(3));
        due(ALL, x.row(0, false));
        due(1, x.frog(0, 6, 6));
        due(ALL & ~bits(6), x.row(0, false));
    }

    private static void weatherAtMost10() {
        sentence("WEATHER (10 spells at most)");
        TickGarden x = lone(0, 1, 0);
        for (int i = 1; i <= 9; i++) due(i, x.weather(0, 0));
        due(0, x.row(0, false));
        due(10, x.weather(40, 1));
        due(FULL, x.weather(50, 0));
        due(10, x.count(4));
        due(steps(40, 1, 60), x.row(0, false));
    }

    private static void weatherFrom() {
        sentence("from a TICK (0 .. 2000) on");
        TickGarden x = lone(0, 1, 0);
        for (int from : new int[] {-1, 2001, LOW, HIGH}) due(OUTSIDE, x.weather(from, 1));
        due(1, x.weather(2000, 1));
        due(0, ticks(x, 2000));
        due(2, x.weather(1999, 2));
        x.again();
        due(1, ticks(x, 2000));
        due(2, x.count(6));
        due(3, x.weather(0, 3));
        x.again();
        due(1, x.tick(1));
        due(3, x.count(6));
        due(1999, ticks(x, 1999));
        due(3 * 1999 + 2, x.count(6));
    }

    private static void wetInBounds() {
        sentence("WET (-20 .. 20)");
        TickGarden x = lone(20, 1, 0);
        for (int wet : new int[] {-21, 21, LOW, HIGH}) due(OUTSIDE, x.weather(0, wet));
        due(0, x.count(4));
        due(1, x.weather(0, 20));
        due(2, x.weather(1, -20));
        due(1, x.tick(1));
        due(40, x.count(6));
        due(0, x.tick(1));
        due(40, x.count(6));
    }

    private static void spellThatRules() {
        sentence("the spell with the latest TICK not above it, of like ones the last told; 0 without");
        TickGarden x = buckets(1, 100, 20);
        x.spout(0, 1, 1, 0);
        x.weather(3, 9);
        x.weather(5, 5);
        x.weather(3, 3);
        x.weather(4, 4);
        x.weather(6, 0);
        int[] dripped = {1, 2, 3, 7, 12, 18, 19};
        for (int all : dripped) {
            x.tick(1);
            due(all, x.count(6));
        }
        x.weather(7, 1);
        x.weather(7, 7);
        x.tick(1);
        due(27, x.count(6));
        x.weather(0, 2);
        x.tick(1);
        due(35, x.count(6));
        x.again();
        x.tick(4);
        due(3 + 3 + 3 + 4, x.count(6));
    }

    private static void dripAtLeast0() {
        sentence("a drip is DROP and WET, 0 at least");
        int[][] drips = {{3, -2, 1}, {3, -3, 0}, {3, -4, 0}, {0, -20, 0}, {0, 20, 20}, {20, -20, 0}, {20, -19, 1}, {20, 20, 40}};
        for (int[] it : drips) {
            TickGarden x = lone(it[0], 1, 0);
            x.weather(0, it[1]);
            x.tick(1);
            due(it[2], x.count(6));
            due(it[2], x.count(9));
            due(it[2] > 0 ? ALL : 0, x.row(0, false));
        }
        // what is less than nothing at one spout takes nothing from another one
        TickGarden x = buckets(1, 3, 0);
        x.spout(0, 6, 1, 0);
        x.spout(0, 0, 1, 0);
        x.weather(0, -3);
        due(ALL, x.row(0, false));
    }

    private static void dryIn0To50() {
        sentence("DRY (0 .. 50; 0 at first)");
        TickGarden x = buckets(1, 100, 0);
        x.spout(0, 2, 1, 0);
        due(0, x.tick(3));
        due(0, x.count(10));
        for (int v : new int[] {-1, 51, LOW, HIGH}) due(OUTSIDE, x.dry(v));
        due(0, x.dry(1));
        x.tick(3);
        due(3, x.count(10));
        due(1, x.dry(50));
        x.again();
        x.tick(1);
        due(1, x.count(10));
        x.tick(49);
        due(1, x.count(10));
        due(99, x.told(0, 4));
        // of 101 that are held at tick 50 one dries up, and 100 knock
        due(1, x.tick(1));
        due(2, x.count(10));
        due(100, x.count(9));
        due(50, x.dry(0));
        ticks(x, 200);
        due(2, x.count(10));
        due(0, x.dry(50));
    }

    // ---- a tick

    private static void downLetsItGo() {
        sentence("a BUCKET that is UP takes it, one that is DOWN lets it go to THE BROOK");
        TickGarden x = buckets(1, 3, 2);
        x.spout(0, 3, 1, 0);
        due(1, x.tick(1));
        due(3, x.count(9));
        due(0, x.tick(2));
        due(9, x.count(9));
        due(0, x.told(0, 4));
        due(0, x.told(0, 5));
        due(1, x.tick(1));
        // so it is with what comes by a pipe
        x = buckets(2, 1, 0);
        x.bucket(1, 1);
        x.spout(0, 1, 30, 0);
        x.spout(1, 1, 30, 0);
        x.pipe(0, 2, 4);
        x.pipe(1, 2, 5);
        due(bits(4, 34), x.row(2, true));
        x.pipe(1, 2, 6);
        due(bits(4, 6, 34, 36), x.row(2, true));
        x.tick(6);
        due(0, x.count(8) - x.told(2, 8));
        due(1, x.told(2, 8));
    }

    private static void allWaterWhoseTimeItIs() {
        sentence("all drips of t, and all water whose time it is in PIPES, come");
        // two of one tick, one of the next tick by a shorter pipe, and a drip of 2
        TickGarden x = buckets(3, 1, 0);
        x.bucket(5, 0);
        x.spout(0, 1, 30, 0);
        x.spout(1, 1, 30, 0);
        x.spout(2, 1, 30, 1);
        x.spout(3, 2, 30, 20);
        x.pipe(0, 3, 20);
        x.pipe(1, 3, 20);
        x.pipe(2, 3, 19);
        due(bits(20, 50), x.row(3, true));
        due(3, ticks(x, 20));
        due(3, x.told(3, 8));
        due(3, x.count(8));
        due(1, x.tick(1));
        due(5, x.count(9));
    }

    private static void waterToTheLastBucket() {
        sentence("8 in PIPES");
        TickGarden x = buckets(8, 1, 0);
        x.spout(0, 7, 30, 0);
        for (int b = 0; b < 8; b++) {
            x.pipe(0, b, 20);
            x.again();
            x.tick(1);
            due(7, x.told(b, 8));
            due(7, x.count(8));
        }
    }

    private static void dryTakesOneOfWhatIsHeld() {
        sentence("if DRY is not 0 and goes into t, each BUCKET that is UP and holds some loses 1");
        TickGarden x = buckets(3, 10, 5);
        x.spout(0, 1, 30, 1);
        x.spout(1, 2, 30, 1);
        x.spout(2, 11, 30, 1);
        x.dry(3);
        // tick 0: none holds any; tick 1: bucket 2 knocks; tick 3: 1 and 2 lose 1; tick 6: one still holds 1
        due(1, x.tick(3));
        due(0, x.count(10));
        x.tick(1);
        due(2, x.count(10));
        due(0, x.told(0, 4));
        due(1, x.told(1, 4));
        due(0, x.told(2, 4));
        x.tick(3);
        due(3, x.count(10));
        x.tick(3);
        due(3, x.count(10));
        // at tick 0 too, and what came at that tick, so that it is not enough
        x = lone(1, 30, 0);
        x.dry(50);
        due(bits(30), x.row(0, true));
        x.dry(30);
        due(0, x.row(0, true));
    }

    private static void sizeOrMore() {
        sentence("one that is UP and holds SIZE or more KNOCKS: all that it holds");
        TickGarden x = buckets(3, 7, 0);
        x.spout(0, 6, 30, 0);
        x.spout(1, 7, 30, 0);
        x.spout(2, 8, 30, 0);
        due(2, x.tick(1));
        due(6, x.told(0, 4));
        due(0, x.told(1, 4));
        due(0, x.told(2, 4));
        due(15, x.count(9));
        due(NONE, x.told(0, 7));
        due(0, x.told(2, 7));
        due(0, ticks(x, 29));
        due(3, x.tick(1));
        due(15 + 12 + 7 + 8, x.count(9));
    }

    private static void pipeAsItIsNow() {
        sentence("to come DELAY TICKS later (by PIPE and DELAY as they are now), or to THE BROOK");
        TickGarden x = lone(1, 2, 0);
        x.bucket(1, 0);
        x.bucket(1, 0);
        x.pipe(0, 1, 20);
        x.tick(1);
        x.pipe(0, 2, 1);
        due(1, x.told(1, 8));
        x.tick(2);
        x.pipe(0, NONE, 1);
        due(1, x.told(1, 8));
        due(1, x.told(2, 8));
        due(1, x.tick(1));
        due(3, x.told(2, 7));
        due(8, ticks(x, 16));
        due(9, x.count(9));
        due(2, x.tick(1));
        due(20, x.told(1, 7));
        due(0, x.count(8));
    }

    private static void downInTheRestTicks() {
        sentence("it is DOWN in the REST TICKS that follow");
        TickGarden x = buckets(1, 1, 1);
        x.spout(0, 1, 1, 0);
        due(steps(0, 2, 60), x.row(0, true));
        x.tick(1);
        due(1, x.told(0, 5));
        x.tick(1);
        due(0, x.told(0, 5));
        x.tick(1);
        due(1, x.told(0, 5));
        due(2, x.told(0, 6));
        due(2, x.told(0, 7));
    }

    private static void upAndEmptyAtFirst() {
        sentence("All BUCKETS are UP and hold 0 at first.");
        TickGarden x = lone(1, 1, 0);
        ticks(x, 2000);
        due(1, x.bucket(1, 20));
        due(0, x.told(1, 4));
        due(0, x.told(1, 5));
        due(0, x.told(1, 6));
        due(NONE, x.told(1, 7));
        due(0, x.told(1, 8));
        due(2000, x.again());
        x.pipe(0, 1, 1);
        due(1, x.tick(1));
        due(2, x.tick(1));
    }

    // ---- runs

    private static void nowIsNotLookedAt() {
        sentence("from the beginning, with all that was told as it is (NOW is not looked at and not changed)");
        TickGarden x = lone(1, 3, 2);
        x.bucket(1, 4);
        x.hear(0, steps(2, 3, 60));
        ticks(x, 2000);
        x.pipe(0, 1, 1);
        due(steps(2, 3, 60), x.row(0, false));
        due(steps(3, 6, 60), x.row(1, true));
        due(31, x.round(0));
        due(6, x.round(1));
        due(NONE, x.meeting(0, 1));
        due(0, x.blamed(0));
        due(0, x.mended(0, 2, 6, NONE));
        due(2000, x.count(0));
        due(666, x.count(5));
        due(666, x.count(9));
        due(0, x.told(1, 6));
        due(1997, x.told(0, 7));
    }

    private static void plainRun() {
        sentence("PLAIN, if it is without FROGS and WEATHER");
        TickGarden x = lone(1, 1, 0);
        x.bucket(1, 0);
        x.spout(1, 1, 1, 7);
        x.frog(0, 0, 2000);
        x.weather(0, -20);
        x.weather(50, 20);
        due(ALL, x.row(0, true));
        due(0, x.row(0, false));
        due(steps(50, 1, 60), x.row(1, false));
        due(7, x.meeting(0, 1));
        due(31, x.round(0));
        due(1, x.round(1));
        // DRY is in each run, plain or not
        x.dry(1);
        due(0, x.row(0, true));
        due(steps(50, 1, 60), x.row(1, false));
        due(NONE, x.meeting(0, 1));
    }

    private static void rowOf60Ticks() {
        sentence("A ROW of a BUCKET in a RUN: a long, bit t (0 .. 59) for a KNOCK at TICK t.");
        TickGarden x = buckets(4, 1, 0);
        x.spout(0, 1, 30, 0);
        x.spout(1, 1, 30, 29);
        x.spout(2, 1, 30, 30);
        due(1L | 1L << 30, x.row(0, true));
        due(1L << 29 | 1L << 59, x.row(1, true));
        due(1L << 30, x.row(2, true));
        due(0, x.row(3, true));
        for (int b : new int[] {4, -1, LOW, HIGH}) {
            due(UNKNOWN, x.row(b, true));
            due(UNKNOWN, x.row(b, false));
        }
    }

    // ---- the round

    private static void roundIs(TickGarden x, int a, int n) {
        due(a, x.round(0));
        due(n, x.round(1));
    }

    /**
     * Bucket 0 fills at tick first and 475, and each 500 ticks later; 19 ticks later its water comes to bucket 1 and goes
     * round there each 3 ticks, until the next water comes one tick ahead of it and it is lost: so the tick after that
     * is the first one from which all is as 500 ticks before, and that is tick first and 496.
     */
    private static TickGarden lateRound(int first) {
        TickGarden x = buckets(1, 20, 0);
        x.bucket(3, 1);
        x.pipe(0, 1, 19);
        x.pipe(1, 1, 3);
        x.spout(0, 1, 25, first);
        return x;
    }

    private static void roundFrom31() {
        sentence("of TICKS a from 31 on ..: the least a");
        roundIs(new TickGarden(), 31, 1);
        roundIs(lone(1, 1, 0), 31, 1);
        roundIs(lone(1, 1, 30), 31, 1);
        TickGarden x = lone(1, 1, 30);
        x.bucket(1, 0);
        x.pipe(0, 1, 1);
        roundIs(x, 31, 1);
        x.pipe(0, 1, 2);
        roundIs(x, 32, 1);
        x.pipe(0, 1, 20);
        roundIs(x, 50, 1);
    }

    /** "a and n" is the sum, as in "ahead of TICK a and n" of the same sentence. */
    private static void roundAtMost1000() {
        sentence("a and n at most 1000");
        roundIs(lateRound(0), 496, 500);
        roundIs(lateRound(3), 499, 500);
        roundIs(lateRound(4), 500, 500);
        roundIs(lateRound(5), NONE, NONE);
        roundIs(lateRound(30), NONE, NONE);
        // from tick 31 on, n is 969 at most
        TickGarden x = buckets(1, 51, 0);
        x.spout(0, 1, 19, 0);
        roundIs(x, 31, 969);
        x = buckets(1, 97, 0);
        x.spout(0, 1, 10, 0);
        roundIs(x, NONE, NONE);
        x = buckets(1, 37, 0);
        x.spout(0, 1, 27, 0);
        roundIs(x, NONE, NONE);
        x = buckets(1, 40, 0);
        x.spout(0, 1, 25, 0);
        roundIs(x, NONE, NONE);
        x = buckets(1, 77, 0);
        x.spout(0, 1, 13, 0);
        roundIs(x, NONE, NONE);
    }

    private static void roundOfEvery() {
        sentence("and EVERY of each SPOUT, and DRY if it is not 0, go into n");
        TickGarden x = new TickGarden();
        x.dry(1);
        roundIs(x, 31, 1);
        x.dry(50);
        roundIs(x, 31, 50);
        x.dry(0);
        x.bucket(100, 0);
        x.spout(0, 0, 7, 0);
        x.spout(0, 0, 11, 0);
        roundIs(x, 31, 77);
        x.dry(14);
        roundIs(x, 31, 154);
        x.dry(0);
        x.spout(0, 0, 13, 0);
        // 1001
        roundIs(x, NONE, NONE);
        // 3, 17 and 19 go into 969
        x = buckets(1, 1, 0);
        x.spout(0, 0, 17, 0);
        x.spout(0, 0, 19, 0);
        roundIs(x, 31, 323);
        x.dry(3);
        roundIs(x, 31, 969);
        x.dry(4);
        roundIs(x, NONE, NONE);
        x = new TickGarden();
        x.bucket(1, 0);
        for (int every = 27; every <= 30; every++) x.spout(0, 1, every, 0);
        roundIs(x, NONE, NONE);
        due(OUTSIDE, x.round(-1));
        due(OUTSIDE, x.round(2));
        due(OUTSIDE, x.round(LOW));
        due(OUTSIDE, x.round(HIGH));
    }

    private static void roundOfAllThatIs() {
        sentence("what BUCKETS hold, how many TICKS each is still DOWN, what comes to each BUCKET by PIPES in each TICK");
        // only what is held differs
        TickGarden x = buckets(1, 5, 0);
        x.spout(0, 1, 1, 0);
        roundIs(x, 31, 5);
        // only the rest differs: at each of the ticks but one 1 is lost
        x = buckets(1, 1, 20);
        x.spout(0, 1, 1, 0);
        roundIs(x, 31, 21);
        // only the tick at which water comes differs
        x = buckets(1, 20, 0);
        x.spout(0, 20, 30, 30);
        x.bucket(21, 0);
        x.pipe(0, 1, 20);
        x.pipe(1, 1, 20);
        // 40 knock at 80, 140, ..; and those come each 20 ticks, with 20 more each 30 ticks: never the same
        roundIs(x, NONE, NONE);
        // bucket 0 knocks at 40 with 23, from then on each 40 ticks with 26: only how much comes differs, 20 ticks or 1 later
        x = buckets(1, 20, 0);
        x.bucket(1, 0);
        x.spout(0, 10, 20, 20);
        x.spout(0, 3, 20, 30);
        x.pipe(0, 1, 20);
        roundIs(x, 61, 40);
        x.pipe(0, 1, 1);
        roundIs(x, 42, 40);
        x.pipe(0, NONE, 1);
        roundIs(x, 41, 40);
        // what is held and never knocks: 1 more each tick
        x = buckets(1, 100, 0);
        x.spout(0, 1, 1, 0);
        roundIs(x, 31, 100);
        x.dry(1);
        roundIs(x, 31, 1);
    }

    private static void meetingAt0To999() {
        sentence("the first TICK (0 .. 999) of a PLAIN RUN in which both KNOCK");
        TickGarden x = buckets(2, 1, 0);
        due(NONE, x.meeting(0, 1));
        x.spout(0, 1, 30, 0);
        due(NONE, x.meeting(0, 1));
        x.spout(1, 1, 30, 0);
        due(0, x.meeting(0, 1));
        due(0, x.meeting(1, 0));
        int[] first = {8, 9, 10};
        int[] meeting = {998, 999, NONE};
        for (int i = 0; i < 3; i++) {
            x = buckets(2, 100, 0);
            x.spout(0, 1, 10, first[i]);
            x.spout(1, 1, 10, first[i]);
            due(meeting[i], x.meeting(0, 1));
        }
        x = buckets(3, 1, 0);
        x.spout(0, 1, 2, 0);
        x.spout(1, 1, 2, 1);
        x.spout(2, 1, 1, 30);
        due(NONE, x.meeting(0, 1));
        due(30, x.meeting(0, 2));
        due(31, x.meeting(2, 1));
    }

    private static void meetingOfOne() {
        sentence("UNKNOWN; NOT: they are one.");
        TickGarden x = lone(1, 1, 0);
        x.bucket(1, 0);
        due(NOT, x.meeting(0, 0));
        due(NOT, x.meeting(1, 1));
        for (int b : new int[] {2, -1, LOW, HIGH}) {
            due(UNKNOWN, x.meeting(b, 0));
            due(UNKNOWN, x.meeting(1, b));
            due(UNKNOWN, x.meeting(b, b));
        }
    }

    // ---- the drip

    private static void dripIs(long wish, int size, int rest, int drop, int every, int off) {
        TickGarden x = new TickGarden();
        due(drop, x.drip(wish, size, rest, 0));
        due(every, x.drip(wish, size, rest, 1));
        due(off, x.drip(wish, size, rest, 2));
    }

    private static void shiftsFromMinus5To5() {
        sentence("of SHIFTS h from -5 to 5, the least of ..");
        // each drip knocks, with a rest of 9 at 0, 10, .. 50
        dripIs(steps(0, 10, 60), 1, 9, 1, 1, 0);
        dripIs(steps(4, 10, 60), 1, 9, 1, 1, 4);
        dripIs(steps(5, 10, 60), 1, 9, 1, 1, 5);
        // 5 sooner what knocked at 0 is gone
        dripIs(steps(5, 10, 50), 1, 9, 1, 1, 5);
        // not 6 later, but 4 sooner, with 56 too much
        dripIs(steps(6, 10, 60), 1, 9, 1, 1, 5);
        // each 12 ticks: 6 aside is too far; 0, 15, 30, 45 have 30 of 6, 18, 30, 42, 54
        dripIs(steps(6, 12, 60), 1, 11, 1, 5, 7);
        // the knock at 59 is gone if it is shifted by 1
        dripIs(bits(59), 60, 20, 1, 1, 0);
        dripIs(0, 60, 20, 1, 2, 0);
        dripIs(bits(58), 60, 20, 2, 2, 0);
    }

    private static void offIsWhatDiffersAndTheShift() {
        sentence("how many TICKS t of 0 .. 59 there are .., and the size of h");
        // of SIZE 100 and 1 to 8 at each tick no more than 4 knocks; the least OFF for all 60 is 56
        dripIs(ALL, 100, 0, 7, 1, 56);
        dripIs(ALL, 100, 20, 5, 1, 58);
        // 1 each tick is wished, but the rest of 1 leaves 30
        dripIs(ALL, 1, 1, 1, 1, 30);
        dripIs(steps(0, 2, 60), 1, 1, 1, 1, 0);
        dripIs(steps(1, 2, 60), 1, 1, 1, 1, 1);
        // what is shifted beyond 59 is gone, and what comes in below 0 is 0
        dripIs(steps(5, 1, 60), 1, 0, 1, 1, 5);
        dripIs(steps(6, 1, 60), 1, 0, 1, 1, 6);
        dripIs(steps(0, 1, 55), 1, 0, 1, 1, 5);
    }

    private static void dropAndEvery1To8() {
        sentence("DROP 1 to 8 and EVERY 1 to 8");
        dripIs(steps(0, 8, 60), 8, 0, 8, 8, 0);
        dripIs(steps(0, 8, 60), 1, 7, 1, 1, 0);
        dripIs(ALL, 8, 0, 8, 1, 0);
        // 9 each tick would do; 5 to 8 knock at each second one
        dripIs(ALL, 9, 0, 5, 1, 30);
    }

    private static void ofSeveralTheLeastDrop() {
        sentence("of several the least DROP, then the least EVERY");
        // each drop knocks, and with a rest of 7 each EVERY of 1, 2, 4, 8 does
        dripIs(steps(0, 8, 60), 1, 7, 1, 1, 0);
        dripIs(steps(0, 8, 60), 2, 7, 2, 1, 0);
        dripIs(steps(0, 9, 60), 1, 8, 1, 1, 0);
        dripIs(steps(0, 10, 60), 1, 8, 1, 2, 0);
        dripIs(0, 100, 0, 1, 1, 0);
        dripIs(0, 16, 0, 1, 4, 0);
        dripIs(0, 15, 0, 1, 5, 0);
        // the eighth drip of EVERY 8 is at 56: it fills 8, not 9; of EVERY 4 to 8 there is one knock of 8
        dripIs(0, 9, 0, 1, 8, 0);
        dripIs(0, 8, 0, 1, 4, 1);
    }

    private static void dripRefusals() {
        sentence("OUTSIDE (SIZE, REST; bits above 59).");
        TickGarden x = new TickGarden();
        for (int size : new int[] {0, 101, -1, LOW, HIGH}) due(OUTSIDE, x.drip(0, size, 0, 0));
        for (int rest : new int[] {-1, 21, LOW, HIGH}) due(OUTSIDE, x.drip(0, 1, rest, 0));
        for (int what : new int[] {-1, 3, LOW, HIGH}) due(OUTSIDE, x.drip(0, 1, 0, what));
        long[] wishes = {-1, 1L << 60, 1L << 61, 1L << 62, 1L << 63, Long.MAX_VALUE, 1L << 60 | 1, -2};
        for (long wish : wishes) due(OUTSIDE, x.drip(wish, 1, 0, 2));
        due(0, x.drip(ALL, 1, 0, 2));
        due(1, x.drip(1L << 59, 60, 20, 0));
        due(1, x.drip(0, 100, 20, 0));
    }

    // ---- the blame

    private static void blamedIs(TickGarden x, int each, int many, int first, int second) {
        due(each, x.blamed(0));
        due(many, x.blamed(1));
        due(first, x.blamed(2));
        due(second, x.blamed(3));
    }

    private static void hearBits() {
        sentence("A ROW was HEARD of a BUCKET (bits 0 to 59; anew in the place of an older one)");
        TickGarden x = lone(1, 30, 0);
        x.bucket(1, 0);
        for (long row : new long[] {-1, 1L << 60, 1L << 63, Long.MAX_VALUE, Long.MIN_VALUE + 1}) due(OUTSIDE, x.hear(0, row));
        for (int b : new int[] {2, -1, LOW, HIGH}) due(UNKNOWN, x.hear(b, 0));
        due(0, x.count(11));
        due(0, x.blamed(0));
        due(1, x.hear(0, ALL));
        due(1, x.hear(0, 1L << 59));
        due(NONE, x.blamed(0));
        due(1, x.hear(0, bits(0, 30)));
        due(0, x.blamed(0));
        due(2, x.hear(1, 0));
        due(2, x.hear(1, 0));
        due(0, x.blamed(0));
    }

    private static void rowsOfAllBuckets() {
        sentence("how many ROWS there are");
        TickGarden x = buckets(8, 1, 0);
        due(0, x.hush());
        for (int b = 7; b >= 0; b--) due(8 - b, x.hear(b, 0));
        for (int b = 0; b < 8; b++) due(8, x.hear(b, b));
        due(8, x.count(11));
        due(8, x.hush());
        due(0, x.count(11));
        due(0, x.hush());
        due(1, x.hear(7, ALL));
        due(1, x.count(11));
    }

    private static void noFault() {
        sentence("with no FAULT, if all ROWS that were HEARD are those of a RUN");
        TickGarden x = new TickGarden();
        blamedIs(x, 0, 1, NONE, NONE);
        x.bucket(1, 0);
        blamedIs(x, 0, 1, NONE, NONE);
        x.hear(0, 0);
        blamedIs(x, 0, 1, NONE, NONE);
        x.hear(0, 1);
        blamedIs(x, NONE, 0, NONE, NONE);
        // a run with frogs and weather, of which bits 0 and 59 count
        x.spout(0, 1, 1, 0);
        x.frog(0, 1, 57);
        x.weather(58, -1);
        x.weather(59, 0);
        x.hear(0, bits(0, 59));
        blamedIs(x, 0, 1, NONE, NONE);
        x.hear(0, bits(0));
        blamedIs(x, NONE, 0, NONE, NONE);
        x.hear(0, bits(59));
        blamedIs(x, NONE, 0, NONE, NONE);
        for (int what : new int[] {-1, 4, LOW, HIGH}) due(OUTSIDE, x.blamed(what));
    }

    private static void faultsOfSpouts() {
        sentence("k: SPOUT k never drips");
        for (int s = 0; s < 4; s++) {
            TickGarden x = buckets(1, 1, 0);
            for (int i = 0; i < 4; i++) x.spout(0, 1, 30, i);
            long heard = bits(0, 1, 2, 3, 30, 31, 32, 33) & ~bits(s, 30 + s);
            x.hear(0, heard);
            blamedIs(x, 1, 1, s, NONE);
        }
    }

    private static void faultsOfBuckets() {
        sentence("10 and k: BUCKET k never KNOCKS (it holds what comes)");
        for (int b = 0; b < 8; b++) {
            TickGarden x = buckets(8, 1, 0);
            for (int i = 0; i < 7; i++) x.pipe(i, i + 1, 1);
            x.spout(0, 1, 30, 0);
            for (int i = 0; i < 8; i++) x.hear(i, i < b ? bits(i, 30 + i) : 0);
            // what lies below is as if the pipe above it led to the brook: but the bucket itself was not heard
            if (b == 0) {
                blamedIs(x, 1, 2, 0, NONE);
            } else {
                blamedIs(x, 1, 2, 10 + b, NONE);
            }
        }
        // it is never down, so all that comes stays in it: nothing goes on
        TickGarden x = buckets(2, 1, 20);
        x.pipe(0, 1, 1);
        x.spout(0, 1, 1, 0);
        x.hear(0, bits(0, 21, 42));
        x.hear(1, 0);
        blamedIs(x, 1, 2, 11, NONE);
    }

    private static void faultsOfPipes() {
        sentence("20 and k: THE PIPE of BUCKET k leads to THE BROOK");
        for (int b = 0; b < 7; b++) {
            TickGarden x = buckets(8, 1, 0);
            for (int i = 0; i < 7; i++) x.pipe(i, i + 1, 1);
            x.spout(0, 1, 30, 0);
            // a drip of its own to the next bucket, at tick 12, so that this one knocks
            x.spout(b + 1, 1, 30, 12);
            for (int i = 0; i < 8; i++) x.hear(i, i <= b ? bits(i, 30 + i) : bits(11 + i - b, 41 + i - b));
            blamedIs(x, 1, 1, 20 + b, NONE);
        }
        TickGarden x = buckets(8, 1, 0);
        x.pipe(7, 7, 10);
        x.spout(7, 1, 30, 0);
        x.hear(7, bits(0, 30));
        blamedIs(x, 1, 1, 27, NONE);
    }

    private static void faultsOfWhatThereIs() {
        sentence("else of single FAULTS (of SPOUTS, BUCKETS that there are)");
        TickGarden x = lone(1, 1, 0);
        x.hear(0, 0);
        blamedIs(x, 1, 2, 0, NONE);
        x.spout(0, 1, 1, 0);
        blamedIs(x, 1, 1, 10, NONE);
        x.bucket(1, 0);
        x.hear(1, ALL);
        blamedIs(x, NONE, 0, NONE, NONE);
        x.hush();
        x.hear(1, 0);
        blamedIs(x, 0, 1, NONE, NONE);
    }

    private static void pairsOfFaults() {
        sentence("else of pairs of two (the lesser number first), those with which they are");
        TickGarden x = buckets(3, 1, 0);
        for (int b = 0; b < 3; b++) x.spout(b, 1, 30, 0);
        x.hear(0, 0);
        x.hear(1, 0);
        x.hear(2, bits(0, 30));
        // 0 or 10 with 1 or 11: 0 and 1 is the first
        blamedIs(x, 2, 4, 0, 1);
        x.hear(0, bits(0, 30));
        blamedIs(x, 1, 2, 1, NONE);
        x.hear(2, 0);
        blamedIs(x, 2, 4, 1, 2);
        // three faults are too many
        x.hear(0, 0);
        blamedIs(x, NONE, 0, NONE, NONE);
        // a second spout to bucket 0: only its own fault still stops it by one; then 10 stands ahead of 11
        x = buckets(2, 1, 0);
        for (int s = 0; s < 4; s++) x.spout(s % 2, 1, 30, 0);
        x.hear(0, 0);
        x.hear(1, 0);
        blamedIs(x, 2, 1, 10, 11);
        x.hush();
        x.hear(0, 0);
        blamedIs(x, 1, 1, 10, NONE);
    }

    // ---- the turn

    private static void mendedIs(TickGarden x, int b, int n, int ticks, int sum, int... changes) {
        due(sum, x.mended(b, n, ticks, NONE));
        for (int s = 0; s < changes.length; s++) due(changes[s], x.mended(b, n, ticks, s));
    }

    private static void turnKnocks0To200() {
        sentence("for a BUCKET, n (0 .. 200) and T (1 .. 200)");
        TickGarden x = lone(3, 1, 0);
        for (int n : new int[] {-1, 201, LOW, HIGH}) due(OUTSIDE, x.mended(0, n, 200, NONE));
        for (int t : new int[] {0, 201, -1, LOW, HIGH}) due(OUTSIDE, x.mended(0, 0, t, 0));
        for (int b : new int[] {1, -1, LOW, HIGH}) due(UNKNOWN, x.mended(b, 0, 1, NONE));
        for (int s : new int[] {1, -2, LOW, HIGH}) due(UNKNOWN, x.mended(0, 0, 1, s));
        mendedIs(x, 0, 200, 200, 0, 0);
        mendedIs(x, 0, 199, 200, NONE, 0);
        mendedIs(x, 0, 200, 199, NONE, 0);
        mendedIs(x, 0, 199, 199, 0, 0);
        mendedIs(x, 0, 0, 200, NONE, 0);
        mendedIs(x, 0, 1, 1, 0, 0);
        mendedIs(x, 0, 0, 1, NONE, 0);
        x.turn(0, 2);
        mendedIs(x, 0, 0, 1, 2, -2);
        mendedIs(x, 0, 0, 200, 2, -2);
    }

    private static void turnInTicks0ToLast() {
        sentence("in TICKS 0 to T - 1 of a RUN");
        TickGarden x = lone(3, 30, 9);
        mendedIs(x, 0, 0, 9, 0, 0);
        mendedIs(x, 0, 1, 9, NONE, 0);
        mendedIs(x, 0, 1, 10, 0, 0);
        mendedIs(x, 0, 1, 39, 0, 0);
        mendedIs(x, 0, 2, 40, 0, 0);
        x.frog(0, 39, 39);
        mendedIs(x, 0, 1, 40, 0, 0);
        mendedIs(x, 0, 6, 190, 0, 0);
        x.weather(189, -3);
        mendedIs(x, 0, 5, 190, 0, 0);
        mendedIs(x, 0, 6, 190, 1, 1);
    }

    private static void changesFromMinus2To2() {
        sentence("by -2 to 2");
        int[] more = {0, 0, 1, 2, NONE};
        int[] less = {NONE, 2, 1, 0, 0};
        for (int i = 0; i < 5; i++) {
            // a drop of 5 for SIZE 4 to 8, and for 3 to 7
            TickGarden x = buckets(1, 4 + i, 0);
            x.bucket(3 + i, 0);
            x.spout(0, 5, 1, 0);
            x.spout(1, 5, 1, 0);
            mendedIs(x, 0, 1, 1, more[i], Math.max(0, more[i]), 0);
            mendedIs(x, 1, 0, 1, less[i], 0, -Math.max(0, less[i]));
        }
        int[] drops = {0, 1, 2, 3};
        int[] sums = {0, 1, 2, NONE};
        for (int i = 0; i < 4; i++) {
            TickGarden x = lone(drops[i], 1, 0);
            mendedIs(x, 0, 0, 5, sums[i], sums[i] == NONE ? 0 : -sums[i]);
        }
    }

    private static void dropsOf0To20Then() {
        sentence("(0 .. 20 then)");
        int[] drops = {16, 17, 18, 19, 20};
        int[] for20 = {NONE, NONE, 2, 1, 0};
        int[] for21 = {NONE, NONE, NONE, NONE, NONE};
        for (int i = 0; i < 5; i++) {
            TickGarden x = buckets(1, 20, 0);
            x.bucket(21, 0);
            x.spout(0, drops[i], 1, 0);
            x.spout(1, drops[i], 1, 0);
            mendedIs(x, 0, 1, 1, for20[i], Math.max(0, for20[i]), 0);
            mendedIs(x, 1, 1, 1, for21[i], 0, 0);
        }
        // so it is for each spout
        for (int s = 0; s < 4; s++) {
            TickGarden x = buckets(1, 21, 0);
            x.bucket(1, 0);
            for (int i = 0; i < 4; i++) x.spout(i == s ? 0 : 1, i == s ? 19 : 0, 1, 0);
            mendedIs(x, 0, 1, 1, NONE, 0, 0, 0, 0);
            x.weather(0, 1);
            mendedIs(x, 0, 1, 1, 1, s == 0 ? 1 : 0, s == 1 ? 1 : 0, s == 2 ? 1 : 0, s == 3 ? 1 : 0);
        }
        // a wet of 1 makes 1 even of 0, and -1 can't be had
        TickGarden x = lone(0, 1, 0);
        x.weather(0, 1);
        mendedIs(x, 0, 0, 1, NONE, 0);
        x.turn(0, 1);
        mendedIs(x, 0, 0, 1, NONE, 0);
    }

    private static void theTurnIsNotMade() {
        sentence("THE TURN: of all ways to change the DROP .. of a RUN");
        TickGarden x = lone(1, 1, 0);
        mendedIs(x, 0, 0, 200, 1, -1);
        due(ALL, x.row(0, false));
        due(0, x.blamed(0));
        x.hear(0, ALL);
        mendedIs(x, 0, 0, 200, 1, -1);
        due(0, x.blamed(0));
        mendedIs(x, 0, 0, 200, 1, -1);
        roundIs(x, 31, 1);
        due(1, x.tick(1));
        due(1, x.count(6));
        due(1, x.turn(0, 1));
        // nor are faults kept
        x.hear(0, 0);
        blamedIs(x, 1, 2, 0, NONE);
        due(ALL, x.row(0, false));
        mendedIs(x, 0, 200, 200, 0, 0);
    }

    private static void turnWithoutSpouts() {
        sentence("of all ways to change the DROP of each SPOUT");
        TickGarden x = buckets(1, 1, 0);
        mendedIs(x, 0, 0, 200, 0);
        mendedIs(x, 0, 1, 200, NONE);
        for (int s = 0; s < 4; s++) due(UNKNOWN, x.mended(0, 0, 200, s));
        // all four have to go down, or up, as far as they can
        for (int s = 0; s < 4; s++) x.spout(0, 2, 1, 0);
        mendedIs(x, 0, 0, 200, 8, -2, -2, -2, -2);
        due(UNKNOWN, x.mended(0, 0, 200, 4));
        x = buckets(1, 88, 0);
        x.bucket(71, 0);
        for (int s = 0; s < 4; s++) x.spout(1, 16, 1, 0);
        x.pipe(1, 0, 1);
        mendedIs(x, 1, 1, 1, 7, 1, 2, 2, 2);
        x.turn(0, 15);
        mendedIs(x, 1, 1, 1, 8, 2, 2, 2, 2);
        x.turn(0, 14);
        mendedIs(x, 1, 1, 1, NONE, 0, 0, 0, 0);
    }

    private static void ofSeveralTheFirstWay() {
        sentence("of several the first (the lesser change where they first differ, by SPOUTS' numbers)");
        TickGarden x = buckets(1, 4, 0);
        for (int s = 0; s < 4; s++) x.spout(0, 1, 30, s);
        // 4 are held at tick 3; one less and it is not so: the first is -1 at spout 0
        mendedIs(x, 0, 0, 4, 1, -1, 0, 0, 0);
        mendedIs(x, 0, 1, 4, 0, 0, 0, 0, 0);
        // 1 more at any of the first three, and it knocks in 3 ticks: the lesser change of spout 0 is 0, of spout 1 too
        mendedIs(x, 0, 1, 3, 1, 0, 0, 1, 0);
        // one more and one less would be 2; the knock at tick 1 needs 2 more
        mendedIs(x, 0, 1, 2, 2, 0, 2, 0, 0);
        // 3 are the most at tick 0
        mendedIs(x, 0, 1, 1, NONE, 0, 0, 0, 0);
    }

    // ---- the calls' own numbers

    private static void tickOf0To200() {
        sentence("n TICKS (0 .. 200) are done");
        TickGarden x = lone(1, 1, 0);
        for (int n : new int[] {-1, 201, LOW, HIGH}) due(OUTSIDE, x.tick(n));
        due(0, x.tick(0));
        due(0, x.count(0));
        due(1, x.tick(1));
        due(200, x.tick(200));
        due(201, x.count(0));
    }

    private static void nowWouldBeAbove2000() {
        sentence("NOT: NOW would be above 2000.");
        TickGarden x = new TickGarden();
        ticks(x, 1800);
        x.tick(1);
        due(NOT, x.tick(200));
        due(1801, x.count(0));
        due(0, x.tick(198));
        due(NOT, x.tick(2));
        due(0, x.tick(1));
        due(NOT, x.tick(1));
        due(2000, x.count(0));
        due(2000, x.again());
        due(0, x.tick(200));
    }

    private static void toldOf0To8() {
        sentence("Of a BUCKET: what = 0 SIZE .. 8 what is on its way to it.");
        TickGarden x = buckets(2, 9, 8);
        x.spout(0, 10, 10, 0);
        x.pipe(0, 1, 7);
        x.tick(5);
        int[] first = {9, 8, 1, 7, 0, 4, 1, 0, 0};
        int[] second = {9, 8, NONE, NONE, 0, 0, 0, NONE, 10};
        for (int what = 0; what <= 8; what++) {
            due(first[what], x.told(0, what));
            due(second[what], x.told(1, what));
        }
        for (int what : new int[] {-1, 9, LOW, HIGH}) {
            due(OUTSIDE, x.told(1, what));
            due(UNKNOWN, x.told(2, what));
        }
    }

    private static void countOf0To11() {
        sentence("How many: 0 NOW .. 11 ROWS that were HEARD.");
        TickGarden x = new TickGarden();
        for (int what : new int[] {-1, 12, LOW, HIGH}) due(OUTSIDE, x.count(what));
        for (int what = 0; what <= 11; what++) due(0, x.count(what));
        x = buckets(2, 1, 0);
        x.hear(1, 0);
        due(2, x.count(1));
        due(1, x.count(11));
    }

    private static void againAtTheBeginning() {
        sentence("all BUCKETS are UP and hold 0, PIPES and THE BROOK are empty, nothing was counted; what was told stays");
        TickGarden x = buckets(1, 3, 20);
        x.bucket(2, 1);
        x.pipe(0, 1, 20);
        x.spout(0, 4, 1, 0);
        x.spout(1, 1, 3, 0);
        x.frog(1, 6, 6);
        x.weather(1, -1);
        x.dry(2);
        x.hear(1, 3);
        due(0, x.again());
        long row = x.row(1, false);
        int knocks = x.tick(9);
        int water = x.count(6);
        due(9, x.again());
        due(0, x.again());
        int[] counted = {0, 2, 2, 1, 1, 0, 0, 0, 0, 0, 0, 1};
        for (int what = 0; what < 12; what++) due(counted[what], x.count(what));
        int[] told = {3, 20, 1, 20, 0, 0, 0, NONE, 0};
        for (int what = 0; what < 9; what++) due(told[what], x.told(0, what));
        due(row, x.row(1, false));
        due(knocks, x.tick(9));
        due(water, x.count(6));
        due(2, x.dry(2));
        due(1, x.hush());
    }

    private static void whatThereIs() {
        nowAtMost2000();
        bucketsAtMost8();
        sizeIn1To100();
        restIn0To20();
        pipeToItself();
        delayIn1To20();
        delayOfTheBrook();
        brookAtFirst();
        spoutsAtMost4();
        dropIn0To20();
        everyIn1To30();
        firstIn0To30();
        frogsAtMost10();
        frogsFirstAndLastTick();
        frogSitsOnOneSpout();
        frogGoesAheadOfItsComing();
        weatherAtMost10();
        weatherFrom();
        wetInBounds();
        spellThatRules();
        dripAtLeast0();
        dryIn0To50();
    }

    private static void aTick() {
        downLetsItGo();
        allWaterWhoseTimeItIs();
        waterToTheLastBucket();
        dryTakesOneOfWhatIsHeld();
        sizeOrMore();
        pipeAsItIsNow();
        downInTheRestTicks();
        upAndEmptyAtFirst();
        tickOf0To200();
        nowWouldBeAbove2000();
        toldOf0To8();
        countOf0To11();
        againAtTheBeginning();
    }

    private static void runs() {
        nowIsNotLookedAt();
        plainRun();
        rowOf60Ticks();
        roundFrom31();
        roundAtMost1000();
        roundOfEvery();
        roundOfAllThatIs();
        meetingAt0To999();
        meetingOfOne();
        shiftsFromMinus5To5();
        offIsWhatDiffersAndTheShift();
        dropAndEvery1To8();
        ofSeveralTheLeastDrop();
        dripRefusals();
    }

    private static void blameAndTurn() {
        hearBits();
        rowsOfAllBuckets();
        noFault();
        faultsOfSpouts();
        faultsOfBuckets();
        faultsOfPipes();
        faultsOfWhatThereIs();
        pairsOfFaults();
        turnKnocks0To200();
        turnInTicks0ToLast();
        changesFromMinus2To2();
        dropsOf0To20Then();
        theTurnIsNotMade();
        turnWithoutSpouts();
        ofSeveralTheFirstWay();
    }

    public static void main(String[] args) {
        numbersFromZeroOn();
        ofSeveralTheFirst();
        whatIsRefusedChangesNothing();
        emptyGarden();
        fullGarden();
        whatThereIs();
        aTick();
        runs();
        blameAndTurn();
        System.out.println(wrong == 0 ? asked + " answers to " + sentences + " sentences are as due" : wrong + " answers are not as due");
        if (wrong != 0) System.exit(1);
    }
}
