/** For each promise, calls with answers that were worked out by hand from the document. */
public final class PromiseTest {
    private static final int NONE = -1, UNKNOWN = -1001, OUTSIDE = -1002, NOT = -1003, FULL = -1004;
    private static final long ALL = (1L << 60) - 1;
    private static final int LOW = Integer.MIN_VALUE, HIGH = Integer.MAX_VALUE;

    private static int wrong = 0;
    private static int asked = 0;
    private static String part = "";

    private static void due(long want, long got) {
        asked++;
        if (got != want) {
            wrong++;
            int line = new Throwable().getStackTrace()[1].getLineNumber();
            System.out.println(part + ", line " + line + ": answered " + got + ", due is " + want);
        }
    }

    private static long bits(int... ticks) {
        long row = 0;
        for (int t : ticks) {
            row |= 1L << t;
        }
        return row;
    }

    /** Bits from, from + step, .. below end. */
    private static long steps(int from, int step, int end) {
        long row = 0;
        for (int t = from; t < end; t += step) {
            row |= 1L << t;
        }
        return row;
    }

    /** A bucket that knocks at each drip, below one spout. */
    private static TickGarden lone(int drop, int every, int first) {
        TickGarden x = new TickGarden();
        x.bucket(1, 0);
        x.spout(0, drop, every, first);
        return x;
    }

    private static void aNewObject() {
        part = "1 a new object";
        TickGarden x = new TickGarden();
        for (int what = 0; what <= 11; what++) {
            due(0, x.count(what));
        }
        due(UNKNOWN, x.told(0, 0));
        due(UNKNOWN, x.turn(0, 0));
        due(UNKNOWN, x.row(0, true));
        due(0, x.tick(200));
        due(31, x.round(0));
        due(1, x.round(1));
        due(0, x.blamed(0));
        x.bucket(1, 0);
        due(0, new TickGarden().count(0));
        due(0, new TickGarden().count(1));
    }

    private static void bucket() {
        part = "2 bucket";
        TickGarden x = new TickGarden();
        int[][] outside = {{0, 0}, {101, 0}, {-1, 0}, {1, -1}, {1, 21}, {LOW, 0}, {HIGH, 0}, {1, LOW}, {1, HIGH}, {0, 21}};
        for (int[] wrongOne : outside) {
            due(OUTSIDE, x.bucket(wrongOne[0], wrongOne[1]));
        }
        due(0, x.count(1));
        due(0, x.bucket(1, 0));
        due(1, x.bucket(100, 20));
        due(100, x.told(1, 0));
        due(20, x.told(1, 1));
        for (int b = 2; b < 8; b++) {
            due(b, x.bucket(10 + b, b));
        }
        due(FULL, x.bucket(5, 5));
        due(OUTSIDE, x.bucket(0, 5));
        due(OUTSIDE, x.bucket(5, 21));
        due(8, x.count(1));
        due(17, x.told(7, 0));
        due(7, x.told(7, 1));
        due(UNKNOWN, x.told(8, 0));

        x = lone(1, 1, 0);
        x.tick(10);
        due(1, x.bucket(3, 4));
        due(0, x.told(1, 4));
        due(0, x.told(1, 5));
        due(NONE, x.told(1, 7));
        x.spout(1, 3, 1, 0);
        due(2, x.tick(1));
        due(10, x.told(1, 7));
        due(4, x.told(1, 5));
    }

    private static void pipe() {
        part = "3 pipe";
        TickGarden x = new TickGarden();
        due(UNKNOWN, x.pipe(0, 0, 1));
        x.bucket(1, 0);
        x.bucket(100, 0);
        due(UNKNOWN, x.pipe(2, 0, 0));
        due(UNKNOWN, x.pipe(0, 2, 0));
        due(UNKNOWN, x.pipe(-1, 0, 1));
        due(UNKNOWN, x.pipe(0, -2, 1));
        due(UNKNOWN, x.pipe(LOW, HIGH, 1));
        due(1, x.pipe(0, 0, 1));
        int[] outside = {0, 21, -1, LOW, HIGH};
        for (int delay : outside) {
            due(OUTSIDE, x.pipe(0, 1, delay));
            due(OUTSIDE, x.pipe(0, NONE, delay));
        }
        due(0, x.told(0, 2));
        due(1, x.told(0, 3));
        due(1, x.pipe(0, 1, 20));
        due(1, x.told(0, 2));
        due(20, x.told(0, 3));
        due(1, x.pipe(0, NONE, 20));
        due(NONE, x.told(0, 2));
        due(NONE, x.told(0, 3));
        waterOnItsWay();
        pipesToThemselves();
    }

    private static void waterOnItsWay() {
        TickGarden x = lone(1, 30, 0);
        x.bucket(100, 0);
        x.pipe(0, 1, 5);
        due(1, x.tick(1));
        due(1, x.told(1, 8));
        x.pipe(0, NONE, 1);
        x.pipe(1, 0, 1);
        due(0, x.tick(4));
        due(0, x.told(1, 4));
        due(1, x.told(1, 8));
        due(0, x.tick(1));
        due(1, x.told(1, 4));
        due(0, x.told(1, 8));
        due(0, x.count(9));
        due(1, x.tick(25));
        due(1, x.count(9));
        due(0, x.count(8));
    }

    private static void pipesToThemselves() {
        TickGarden x = new TickGarden();
        x.bucket(2, 0);
        x.spout(0, 2, 30, 0);
        x.pipe(0, 0, 20);
        due(bits(0, 20, 30, 40, 50), x.row(0, true));
        x.pipe(0, 0, 1);
        due(ALL, x.row(0, true));
        x = new TickGarden();
        x.bucket(2, 1);
        x.spout(0, 2, 30, 0);
        x.pipe(0, 0, 1);
        due(bits(0, 30), x.row(0, true));
        due(1, x.tick(2));
        due(2, x.count(9));
        x.pipe(0, 0, 2);
        due(steps(0, 2, 60), x.row(0, true));
    }

    private static void spout() {
        part = "4 spout";
        TickGarden x = new TickGarden();
        due(UNKNOWN, x.spout(0, 1, 1, 0));
        due(UNKNOWN, x.spout(NONE, 1, 1, 0));
        x.bucket(1, 0);
        due(UNKNOWN, x.spout(1, 21, 1, 0));
        due(UNKNOWN, x.spout(-1, 1, 1, 0));
        int[][] outside = {{-1, 1, 0}, {21, 1, 0}, {1, 0, 0}, {1, 31, 0}, {1, 1, -1}, {1, 1, 31},
                {LOW, 1, 0}, {HIGH, 1, 0}, {1, LOW, 0}, {1, HIGH, 0}, {1, 1, LOW}, {1, 1, HIGH}};
        for (int[] it : outside) {
            due(OUTSIDE, x.spout(0, it[0], it[1], it[2]));
        }
        due(0, x.count(2));
        due(0, x.spout(0, 1, 4, 3));
        due(steps(3, 4, 60), x.row(0, false));
        due(1, x.spout(0, 20, 30, 30));
        due(steps(3, 4, 60) | bits(30), x.row(0, false));
        due(2, x.spout(0, 0, 1, 0));
        due(steps(3, 4, 60) | bits(30), x.row(0, false));
        due(3, x.spout(0, 1, 1, 0));
        due(ALL, x.row(0, false));
        due(FULL, x.spout(0, 1, 1, 0));
        due(OUTSIDE, x.spout(0, 1, 0, 0));
        due(UNKNOWN, x.spout(1, 1, 1, 0));
        due(4, x.count(2));
        lateSpout();
    }

    /** A spout that comes late drips at the ticks at which it would have dripped had it been there. */
    private static void lateSpout() {
        TickGarden x = new TickGarden();
        x.bucket(1, 0);
        x.tick(10);
        x.spout(0, 1, 4, 1);
        due(1, x.tick(4));
        due(13, x.told(0, 7));
        due(1, x.count(6));
        x = lone(7, 30, 30);
        due(0, x.tick(30));
        due(1, x.tick(1));
        due(7, x.count(6));
        due(0, x.tick(29));
        due(1, x.tick(1));
    }

    private static void turn() {
        part = "5 turn";
        TickGarden x = lone(1, 1, 0);
        x.spout(0, 2, 1, 0);
        due(UNKNOWN, x.turn(2, 21));
        due(UNKNOWN, x.turn(-1, 1));
        due(UNKNOWN, x.turn(HIGH, 1));
        int[] outside = {-1, 21, LOW, HIGH};
        for (int v : outside) {
            due(OUTSIDE, x.turn(0, v));
        }
        due(1, x.turn(0, 20));
        due(20, x.turn(0, 0));
        due(0, x.turn(0, 5));
        due(2, x.turn(1, 3));
        x.tick(2);
        due(16, x.count(6));
        due(5, x.turn(0, 0));
        due(3, x.turn(1, 0));
        due(0, x.tick(2));
        due(16, x.count(6));
        due(0, x.row(0, true));
    }

    private static void frog() {
        part = "6 frog";
        TickGarden x = lone(1, 1, 0);
        due(UNKNOWN, x.frog(1, 5, 4));
        due(UNKNOWN, x.frog(-1, 0, 0));
        int[][] outside = {{5, 4}, {-1, 4}, {0, 2001}, {2001, 2001}, {2000, 1999}, {LOW, 4}, {0, HIGH}, {HIGH, LOW}, {-2, -1}};
        for (int[] it : outside) {
            due(OUTSIDE, x.frog(0, it[0], it[1]));
        }
        due(0, x.count(3));
        due(1, x.frog(0, 5, 9));
        due(ALL & ~steps(5, 1, 10), x.row(0, false));
        due(ALL, x.row(0, true));
        due(2, x.frog(0, 8, 12));
        due(3, x.frog(0, 20, 20));
        due(4, x.frog(0, 0, 0));
        due(5, x.frog(0, 2000, 2000));
        due(ALL & ~steps(5, 1, 13) & ~bits(0, 20), x.row(0, false));
        due(8, x.tick(15) + x.tick(2));
        due(8, x.count(6));
        for (int frogs = 6; frogs <= 10; frogs++) {
            due(frogs, x.frog(0, 0, 2000));
        }
        due(0, x.row(0, false));
        due(FULL, x.frog(0, 0, 2000));
        due(OUTSIDE, x.frog(0, 1, 0));
        due(UNKNOWN, x.frog(1, 0, 2000));
        due(10, x.count(3));

        x = lone(1, 2, 0);
        x.spout(0, 1, 2, 1);
        due(1, x.frog(1, 0, 2000));
        due(steps(0, 2, 60), x.row(0, false));
    }

    private static void weather() {
        part = "7 weather";
        TickGarden x = new TickGarden();
        x.bucket(100, 0);
        x.spout(0, 3, 1, 0);
        int[][] outside = {{-1, 0}, {2001, 0}, {0, -21}, {0, 21}, {LOW, 0}, {HIGH, 0}, {0, LOW}, {0, HIGH}};
        for (int[] it : outside) {
            due(OUTSIDE, x.weather(it[0], it[1]));
        }
        due(0, x.count(4));
        due(1, x.weather(2, -20));
        due(2, x.weather(4, 5));
        due(3, x.weather(4, 1));
        due(4, x.weather(3, 2));
        due(5, x.weather(2000, 20));
        int[] dripped = {3, 6, 6, 11, 15, 19};
        for (int all : dripped) {
            x.tick(1);
            due(all, x.count(6));
        }
        for (int spells = 6; spells <= 10; spells++) {
            due(spells, x.weather(6, spells));
        }
        due(FULL, x.weather(0, 0));
        due(OUTSIDE, x.weather(2001, 0));
        due(10, x.count(4));
        x.tick(1);
        due(32, x.count(6));

        x = lone(0, 1, 0);
        x.weather(0, 1);
        x.weather(10, 0);
        x.weather(20, 20);
        x.weather(30, -20);
        due(steps(0, 1, 10) | steps(20, 1, 30), x.row(0, false));
        due(0, x.row(0, true));
        due(20, x.tick(60));
        due(10 + 200, x.count(6));
    }

    private static void dry() {
        part = "8 dry";
        TickGarden x = new TickGarden();
        x.bucket(5, 0);
        x.spout(0, 1, 1, 0);
        int[] outside = {-1, 51, LOW, HIGH};
        for (int v : outside) {
            due(OUTSIDE, x.dry(v));
        }
        due(0, x.dry(50));
        due(50, x.dry(1));
        due(1, x.dry(3));
        due(0, x.tick(7));
        due(4, x.told(0, 4));
        due(1, x.tick(1));
        due(3, x.count(10));
        due(3, x.dry(0));
        due(1, x.tick(5));
        due(3, x.count(10));
        due(12, x.told(0, 7));
        dryWhileDownOrEmpty();
    }

    private static void dryWhileDownOrEmpty() {
        TickGarden x = new TickGarden();
        x.bucket(10, 3);
        x.spout(0, 11, 30, 1);
        x.dry(1);
        due(1, x.tick(2));
        due(1, x.count(10));
        due(10, x.count(9));
        due(0, x.tick(29));
        due(1, x.count(10));
        due(1, x.tick(1));
        x = new TickGarden();
        x.bucket(10, 0);
        x.bucket(10, 0);
        x.spout(0, 1, 1, 0);
        x.spout(1, 9, 1, 0);
        x.dry(50);
        x.tick(1);
        due(2, x.count(10));
        due(0, x.told(0, 4));
        due(8, x.told(1, 4));
    }

    private static void told() {
        part = "9 told";
        TickGarden x = new TickGarden();
        x.bucket(3, 2);
        x.bucket(50, 20);
        x.spout(0, 3, 4, 1);
        x.pipe(0, 1, 6);
        int[][] due = {{3, 2, 1, 6, 0, 0, 0, NONE, 0}, {50, 20, NONE, NONE, 0, 0, 0, NONE, 0}};
        allTold(x, due);
        x.tick(2);
        allTold(x, new int[][] {{3, 2, 1, 6, 0, 2, 1, 1, 0}, {50, 20, NONE, NONE, 0, 0, 0, NONE, 3}});
        x.tick(1);
        allTold(x, new int[][] {{3, 2, 1, 6, 0, 1, 1, 1, 0}, {50, 20, NONE, NONE, 0, 0, 0, NONE, 3}});
        x.tick(3);
        allTold(x, new int[][] {{3, 2, 1, 6, 0, 2, 2, 5, 0}, {50, 20, NONE, NONE, 0, 0, 0, NONE, 6}});
        x.tick(2);
        x.turn(0, 2);
        x.tick(2);
        allTold(x, new int[][] {{3, 2, 1, 6, 2, 0, 2, 5, 0}, {50, 20, NONE, NONE, 3, 0, 0, NONE, 3}});
        int[] outside = {-1, 9, LOW, HIGH};
        for (int what : outside) {
            due(OUTSIDE, x.told(0, what));
            due(UNKNOWN, x.told(2, what));
        }
        due(UNKNOWN, x.told(2, 0));
        due(UNKNOWN, x.told(-1, 0));
        due(UNKNOWN, x.told(HIGH, 0));
        due(UNKNOWN, x.told(LOW, 0));
    }

    private static void allTold(TickGarden x, int[][] answers) {
        for (int b = 0; b < answers.length; b++) {
            for (int what = 0; what < answers[b].length; what++) {
                due(answers[b][what], x.told(b, what));
            }
        }
    }

    private static void count() {
        part = "10 count";
        TickGarden x = new TickGarden();
        x.bucket(3, 2);
        x.bucket(5, 1);
        x.bucket(1, 0);
        x.spout(0, 2, 1, 0);
        x.spout(1, 1, 1, 0);
        x.pipe(0, 1, 3);
        x.frog(1, 1, 1);
        x.weather(1000, 1);
        x.weather(1001, 1);
        x.hear(2, 5);
        x.dry(4);
        // tick 0: 2 and 1 come, 1 and 1 dry up: 1, 0; tick 1: 3 knocks into the pipe, 0
        x.tick(2);
        allCounted(x, new int[] {2, 3, 2, 1, 2, 1, 5, 0, 3, 0, 2, 1});
        // ticks 2, 3: bucket 0 is down, 4 to the brook, bucket 1 gets 2; tick 4: 2, and 1 and 3 of the pipe; 1 and 1 dry up: 1, 5 knocks
        x.tick(3);
        allCounted(x, new int[] {5, 3, 2, 1, 2, 2, 14, 1, 0, 9, 4, 1});
        int[] outside = {-1, 12, LOW, HIGH};
        for (int what : outside) {
            due(OUTSIDE, x.count(what));
        }
    }

    private static void allCounted(TickGarden x, int[] answers) {
        for (int what = 0; what < answers.length; what++) {
            due(answers[what], x.count(what));
        }
        due(x.count(6), x.count(7) + x.count(8) + x.count(9) + x.count(10));
    }

    private static void tick() {
        part = "11 tick";
        TickGarden x = lone(1, 1, 0);
        x.bucket(2, 0);
        x.spout(1, 1, 1, 0);
        int[] outside = {-1, 201, LOW, HIGH};
        for (int n : outside) {
            due(OUTSIDE, x.tick(n));
        }
        due(0, x.tick(0));
        due(0, x.count(0));
        due(1, x.tick(1));
        due(2, x.tick(1));
        due(297, x.tick(198));
        for (int now = 400; now <= 1800; now += 200) {
            due(300, x.tick(200));
            due(now, x.count(0));
        }
        due(300, x.tick(199) + x.tick(1));
        due(2000, x.count(0));
        due(NOT, x.tick(1));
        due(NOT, x.tick(200));
        due(OUTSIDE, x.tick(201));
        due(0, x.tick(0));
        due(2000, x.count(0));
        due(3000, x.count(5));
        x.again();
        for (int i = 0; i < 9; i++) {
            x.tick(200);
        }
        x.tick(1);
        due(NOT, x.tick(200));
        due(1801, x.count(0));
        due(299, x.tick(199));
        orderOfATick();
    }

    /** Drips and pipes ahead of dryness, dryness ahead of knocks; a rest counts from the tick after the knock. */
    private static void orderOfATick() {
        TickGarden x = new TickGarden();
        x.bucket(2, 3);
        x.bucket(2, 0);
        x.pipe(0, 1, 4);
        x.pipe(1, 0, 4);
        x.spout(0, 3, 4, 0);
        x.dry(8);
        // 0: 3 less 1 knocks; 4: 3 knocks, the 2 knock on; 8: 3 and 2 less 1 knocks, 3 less 1 knock on; 12: 3 and 2, 4
        due(bits(0) | steps(4, 4, 60), x.row(0, true));
        due(steps(4, 4, 60), x.row(1, true));
        due(1, x.tick(1));
        due(2, x.told(1, 8));
        due(2, x.tick(4));
        due(3, x.told(1, 8));
        due(2, x.told(0, 8));
        due(2, x.tick(4));
        due(4, x.told(1, 8));
        due(2, x.told(0, 8));
        due(3, x.count(10));
        due(0, x.count(9));
        due(3, x.told(0, 5));
    }

    private static void again() {
        part = "12 again";
        TickGarden x = new TickGarden();
        x.bucket(3, 9);
        x.bucket(7, 0);
        x.pipe(0, 1, 20);
        x.pipe(1, 1, 2);
        x.spout(0, 4, 3, 1);
        x.spout(1, 4, 1, 0);
        x.frog(1, 2, 3);
        x.weather(4, 2);
        x.dry(2);
        x.turn(0, 5);
        x.hear(1, 9);
        due(0, x.again());
        long row = x.row(1, false);
        int knocks = x.tick(33);
        int[] before = new int[12];
        for (int what = 0; what < 12; what++) {
            before[what] = x.count(what);
        }
        due(33, x.again());
        due(0, x.again());
        int[] reset = {0, 2, 2, 1, 1, 0, 0, 0, 0, 0, 0, 1};
        allCounted(x, reset);
        allTold(x, new int[][] {{3, 9, 1, 20, 0, 0, 0, NONE, 0}, {7, 0, 1, 2, 0, 0, 0, NONE, 0}});
        due(row, x.row(1, false));
        due(knocks, x.tick(33));
        for (int what = 0; what < 12; what++) {
            due(before[what], x.count(what));
        }
        due(2, x.dry(0));
        due(5, x.turn(0, 0));
    }

    private static void row() {
        part = "13 row";
        TickGarden x = lone(1, 1, 0);
        x.frog(0, 0, 0);
        x.frog(0, 59, 60);
        x.weather(30, -1);
        x.weather(31, 0);
        due(ALL, x.row(0, true));
        due(ALL & ~bits(0, 30, 59), x.row(0, false));
        x.tick(33);
        due(31, x.count(5));
        due(ALL, x.row(0, true));
        due(33, x.count(0));
        due(31, x.count(5));
        due(31, x.count(6));
        int[] unknown = {1, -1, 8, LOW, HIGH};
        for (int b : unknown) {
            due(UNKNOWN, x.row(b, true));
            due(UNKNOWN, x.row(b, false));
        }
        x.dry(1);
        due(0, x.row(0, true));
        x.dry(30);
        due(ALL & ~bits(0, 30), x.row(0, true));
        x.turn(0, 3);
        due(ALL, x.row(0, true));
        x.bucket(7, 4);
        x.pipe(0, 1, 2);
        // dry at 0: 2; then 3 each tick, from tick 2 on: 2, 5, 8 knocks at 4, is down 5 to 8; 9, 10, 11 knocks at 11
        due(bits(4, 11, 18, 25, 32, 39, 46, 53), x.row(1, true));
    }

    private static void round() {
        part = "14 round";
        TickGarden x = new TickGarden();
        int[] outside = {-1, 2, LOW, HIGH};
        for (int what : outside) {
            due(OUTSIDE, x.round(what));
        }
        x.dry(7);
        roundIs(x, 31, 7);
        x = lone(0, 7, 30);
        roundIs(x, 31, 7);
        x.spout(0, 0, 11, 0);
        roundIs(x, 31, 77);
        x.spout(0, 0, 13, 0);
        roundIs(x, NONE, NONE);
        x = lone(0, 9, 0);
        x.spout(0, 0, 10, 0);
        x.dry(7);
        roundIs(x, 31, 630);
        x.dry(11);
        // 31 and 990
        roundIs(x, NONE, NONE);
        x = new TickGarden();
        x.bucket(1, 20);
        x.spout(0, 1, 1, 0);
        roundIs(x, 31, 21);
        x.frog(0, 0, 2000);
        x.weather(0, -20);
        roundIs(x, 31, 21);
        x.tick(17);
        roundIs(x, 31, 21);
        due(17, x.count(0));
        longRounds();
        lateRounds();
    }

    private static void roundIs(TickGarden x, int a, int n) {
        due(a, x.round(0));
        due(n, x.round(1));
    }

    /** A and n together are 1000 at most. */
    private static void longRounds() {
        roundIs(filledBy(51, 19), 31, 969);
        roundIs(filledBy(97, 10), NONE, NONE);
        roundIs(filledBy(50, 20), NONE, NONE);
        roundIs(filledBy(34, 30), NONE, NONE);
        TickGarden x = new TickGarden();
        x.bucket(2, 0);
        x.spout(0, 2, 30, 0);
        x.pipe(0, 0, 20);
        roundIs(x, NONE, NONE);
    }

    private static TickGarden filledBy(int drips, int every) {
        TickGarden x = new TickGarden();
        x.bucket(drips, 0);
        x.spout(0, 1, every, 0);
        return x;
    }

    /** What comes by pipes counts by its tick. */
    private static void lateRounds() {
        TickGarden x = lone(1, 1, 30);
        x.bucket(1, 0);
        x.pipe(0, 1, 20);
        roundIs(x, 50, 1);
        x.pipe(0, 1, 1);
        roundIs(x, 31, 1);
        x.pipe(0, 1, 2);
        roundIs(x, 32, 1);
        x = new TickGarden();
        x.bucket(36, 5);
        x.bucket(1, 11);
        x.spout(1, 3, 20, 0);
        x.spout(1, 7, 19, 28);
        x.pipe(0, 0, 4);
        x.pipe(1, 0, 18);
        roundIs(x, NONE, NONE);
        latestRounds();
    }

    /** Found by a search, and looked over by one that tries each a and n: the last ones taken and the first ones not. */
    private static void latestRounds() {
        TickGarden x = new TickGarden();
        x.bucket(2, 2);
        x.bucket(48, 10);
        x.spout(0, 5, 8, 22);
        x.spout(0, 4, 30, 19);
        x.pipe(0, 0, 11);
        x.pipe(1, 0, 7);
        roundIs(x, 880, 120);
        x = new TickGarden();
        x.bucket(1, 11);
        x.spout(0, 2, 18, 27);
        x.spout(0, 9, 19, 5);
        x.pipe(0, 0, 18);
        roundIs(x, 658, 342);
        // tick 749, length 252
        x = new TickGarden();
        x.bucket(8, 2);
        x.spout(0, 2, 18, 27);
        x.spout(0, 6, 7, 1);
        x.pipe(0, 0, 19);
        roundIs(x, NONE, NONE);
        // tick 801, length 200
        x = new TickGarden();
        x.bucket(8, 18);
        x.bucket(3, 1);
        x.spout(1, 1, 10, 21);
        x.pipe(0, 1, 18);
        x.pipe(1, 0, 9);
        x.dry(40);
        roundIs(x, NONE, NONE);
    }

    private static void meeting() {
        part = "15 meeting";
        TickGarden x = new TickGarden();
        due(UNKNOWN, x.meeting(0, 0));
        x.bucket(100, 0);
        x.bucket(100, 0);
        x.bucket(1, 0);
        due(NOT, x.meeting(0, 0));
        due(NOT, x.meeting(2, 2));
        int[] unknown = {3, -1, LOW, HIGH};
        for (int b : unknown) {
            due(UNKNOWN, x.meeting(b, 0));
            due(UNKNOWN, x.meeting(0, b));
            due(UNKNOWN, x.meeting(b, b));
        }
        due(NONE, x.meeting(0, 1));
        x.spout(0, 1, 10, 9);
        x.spout(1, 1, 10, 9);
        due(999, x.meeting(0, 1));
        due(999, x.meeting(1, 0));
        due(NONE, x.meeting(0, 2));
        x.spout(2, 1, 11, 0);
        due(NONE, x.meeting(0, 2));
        x.frog(0, 0, 2000);
        x.weather(0, 20);
        due(999, x.meeting(0, 1));
        x.dry(50);
        due(NONE, x.meeting(0, 1));
        due(0, x.count(0));

        x = new TickGarden();
        x.bucket(100, 0);
        x.bucket(100, 0);
        x.spout(0, 1, 10, 10);
        x.spout(1, 1, 10, 10);
        due(NONE, x.meeting(0, 1));
        x.spout(0, 1, 30, 0);
        due(NONE, x.meeting(0, 1));

        x = lone(1, 3, 2);
        x.bucket(1, 0);
        x.spout(1, 1, 5, 4);
        due(14, x.meeting(0, 1));
    }

    private static void drip() {
        part = "16 drip";
        TickGarden x = new TickGarden();
        due(OUTSIDE, x.drip(0, 0, 0, 0));
        due(OUTSIDE, x.drip(0, 101, 0, 0));
        due(OUTSIDE, x.drip(0, 1, -1, 0));
        due(OUTSIDE, x.drip(0, 1, 21, 0));
        due(OUTSIDE, x.drip(0, 1, 0, -1));
        due(OUTSIDE, x.drip(0, 1, 0, 3));
        due(OUTSIDE, x.drip(1L << 60, 1, 0, 0));
        due(OUTSIDE, x.drip(1L << 63, 1, 0, 0));
        due(OUTSIDE, x.drip(-1, 1, 0, 0));
        due(OUTSIDE, x.drip(ALL, LOW, HIGH, HIGH));
        dripIs(ALL, 1, 0, 1, 1, 0);
        dripIs(steps(0, 8, 60), 8, 0, 8, 8, 0);
        dripIs(steps(0, 3, 60), 8, 0, 8, 3, 0);
        dripIs(steps(7, 8, 60), 8, 0, 1, 1, 0);
        // 60 drips of 1 don't fill 100, but 60; 30 drips of 1 don't fill 59
        dripIs(0, 100, 20, 1, 1, 0);
        dripIs(0, 60, 0, 1, 2, 0);
        dripIs(0, 59, 0, 1, 2, 0);
        dripIs(bits(59), 60, 0, 1, 1, 0);
        dripShifts();
        // the garden itself is of no account
        x.bucket(1, 0);
        x.spout(0, 20, 1, 0);
        x.weather(0, 20);
        x.dry(1);
        due(8, x.drip(steps(0, 3, 60), 8, 0, 0));
        due(3, x.drip(steps(0, 3, 60), 8, 0, 1));
        due(0, x.drip(steps(0, 3, 60), 8, 0, 2));
    }

    private static void dripIs(long wish, int size, int rest, int drop, int every, int off) {
        TickGarden x = new TickGarden();
        due(drop, x.drip(wish, size, rest, 0));
        due(every, x.drip(wish, size, rest, 1));
        due(off, x.drip(wish, size, rest, 2));
    }

    private static void dripShifts() {
        // 3 each tick knock at 2, 5, ..: one too late; 8 at each third at 0, 3, ..: one too early; the least drop
        dripIs(steps(1, 3, 60), 8, 0, 3, 1, 1);
        // 2 each tick knock at 3, 7, .. 55, 59: two too early, and 61 is none; 8 at each fourth at 0, 4, ..: one more and 1
        dripIs(steps(5, 4, 60), 8, 0, 2, 1, 2);
        // only 8 knock at each eighth tick, at 0 first; 3 too late, and -3 is none
        dripIs(steps(5, 8, 60), 8, 7, 8, 1, 3);
        // each drip of 1 knocks, at 0, 10, .. 50: 5 too early; then 5 too late, and -5 is none
        dripIs(steps(5, 10, 60), 1, 9, 1, 1, 5);
        dripIs(steps(5, 10, 50), 1, 9, 1, 1, 5);
        // 0, 12, .. are 6 too early, and so not shifted; 0, 15, 30, 45 have 30 of 6, 18, 30, 42, 54
        dripIs(steps(6, 12, 60), 1, 11, 1, 5, 7);
        // nothing at all is 1 off, like what knocks one tick aside
        dripIs(bits(53), 60, 0, 1, 2, 1);
        dripIs(bits(54), 60, 0, 6, 6, 0);
    }

    private static void hear() {
        part = "17 hear";
        TickGarden x = new TickGarden();
        due(UNKNOWN, x.hear(0, 0));
        x.bucket(1, 0);
        x.bucket(2, 0);
        due(UNKNOWN, x.hear(2, -1));
        due(UNKNOWN, x.hear(-1, 0));
        due(UNKNOWN, x.hear(HIGH, 0));
        due(OUTSIDE, x.hear(0, 1L << 60));
        due(OUTSIDE, x.hear(0, -1));
        due(OUTSIDE, x.hear(0, Long.MIN_VALUE));
        due(0, x.count(11));
        due(1, x.hear(1, ALL));
        due(1, x.hear(1, 0));
        due(2, x.hear(0, ALL));
        due(2, x.hear(1, 7));
        due(2, x.count(11));
        // an older row is of no account
        due(NONE, x.blamed(0));
        x.hear(1, 0);
        x.hear(0, 0);
        due(0, x.blamed(0));
        due(OUTSIDE, x.hear(0, 1L << 62));
        due(0, x.blamed(0));
    }

    private static void hush() {
        part = "18 hush";
        TickGarden x = lone(1, 1, 0);
        due(0, x.hush());
        x.bucket(1, 0);
        x.hear(0, 3);
        x.hear(0, 4);
        due(1, x.hush());
        due(0, x.hush());
        due(0, x.count(11));
        due(0, x.blamed(0));
        x.hear(0, 5);
        x.hear(1, 5);
        due(2, x.count(11));
        due(2, x.hush());
        due(1, x.hear(1, 0));
        due(0, x.blamed(0));
    }

    private static void blamed() {
        part = "19 blamed";
        TickGarden x = new TickGarden();
        int[] outside = {-1, 4, LOW, HIGH};
        for (int what : outside) {
            due(OUTSIDE, x.blamed(what));
        }
        blamedIs(x, 0, 1, NONE, NONE);
        x.bucket(1, 0);
        x.hear(0, 1);
        blamedIs(x, NONE, 0, NONE, NONE);
        x.spout(0, 2, 30, 0);
        blamedIs(x, NONE, 0, NONE, NONE);
        x.hear(0, bits(0, 30));
        blamedIs(x, 0, 1, NONE, NONE);
        x.hear(0, 0);
        // the spout never drips, or the bucket never knocks
        blamedIs(x, 1, 2, 0, NONE);
        x.bucket(2, 0);
        x.pipe(0, 1, 3);
        x.hear(0, bits(0, 30));
        x.hear(1, 0);
        // bucket 1 never knocks, or the pipe of bucket 0 leads to the brook
        blamedIs(x, 1, 2, 11, NONE);
        x.hear(0, 0);
        blamedIs(x, 1, 2, 0, NONE);
        x.spout(1, 2, 20, 0);
        // spouts 0 and 1; 0 and bucket 1; 1 and bucket 0; buckets 0 and 1
        blamedIs(x, 2, 4, 0, 1);
        x.hear(0, bits(0, 30));
        blamedIs(x, 1, 1, 11, NONE);
        x.hear(1, bits(0, 20, 40));
        blamedIs(x, 1, 1, 20, NONE);
        x.hear(1, bits(3, 33));
        blamedIs(x, 1, 1, 1, NONE);
        x.hear(0, 0);
        x.hear(1, bits(0, 20, 40));
        blamedIs(x, 1, 2, 0, NONE);
        due(0, x.count(0));
        blamedInWeather();
        blamedPairs();
    }

    private static void blamedIs(TickGarden x, int each, int many, int first, int second) {
        due(each, x.blamed(0));
        due(many, x.blamed(1));
        due(first, x.blamed(2));
        due(second, x.blamed(3));
    }

    private static void blamedInWeather() {
        TickGarden x = lone(1, 10, 0);
        x.frog(0, 5, 25);
        x.weather(40, -1);
        x.hear(0, bits(0, 30));
        blamedIs(x, 0, 1, NONE, NONE);
        x.hear(0, steps(0, 10, 60));
        blamedIs(x, NONE, 0, NONE, NONE);
        // what comes at tick 59 counts, what comes at 60 does not
        x = lone(1, 30, 29);
        x.bucket(1, 0);
        x.spout(1, 1, 30, 30);
        x.hear(0, bits(29, 59));
        x.hear(1, bits(30));
        blamedIs(x, 0, 1, NONE, NONE);
        x.hear(0, bits(29));
        blamedIs(x, NONE, 0, NONE, NONE);
    }

    /** Water goes through all buckets to the last one; three spouts more lead to that one. */
    private static void blamedPairs() {
        TickGarden x = new TickGarden();
        for (int b = 0; b < 8; b++) {
            x.bucket(1, 0);
        }
        for (int b = 0; b < 7; b++) {
            x.pipe(b, b + 1, 1);
        }
        x.spout(0, 1, 30, 0);
        for (int s = 1; s < 4; s++) {
            x.spout(7, 1, 30, s);
        }
        x.hear(7, bits(2, 32));
        // spouts 1 and 3 would have to be stopped, and what comes from spout 0
        blamedIs(x, NONE, 0, NONE, NONE);
        x.hear(7, bits(1, 2, 3, 31, 32, 33));
        // spout 0, buckets 0 to 6, pipes 0 to 6
        blamedIs(x, 1, 15, 0, NONE);
        x.hear(7, bits(1, 3, 7, 31, 33, 37));
        blamedIs(x, 1, 1, 2, NONE);
        x.hear(7, bits(1, 7, 31, 37));
        blamedIs(x, 2, 1, 2, 3);
        x.hear(7, bits(2, 3, 32, 33));
        blamedIs(x, 2, 15, 0, 1);
        x.hear(6, bits(6, 36));
        blamedIs(x, 2, 1, 1, 26);
        x.hear(6, 0);
        x.hear(5, bits(5, 35));
        // spout 1 with bucket 6, or with the pipe of bucket 5
        blamedIs(x, 2, 2, 1, 16);

        // the last bucket and its pipe
        x = new TickGarden();
        for (int b = 0; b < 8; b++) {
            x.bucket(1, 0);
        }
        x.pipe(7, 0, 10);
        x.spout(7, 1, 30, 0);
        x.spout(7, 1, 30, 1);
        x.spout(0, 1, 30, 5);
        x.hear(7, 0);
        x.hear(0, bits(5, 35));
        blamedIs(x, 1, 1, 17, NONE);
        x.hear(7, bits(0, 1, 30, 31));
        blamedIs(x, 1, 1, 27, NONE);
    }

    private static void mended() {
        part = "20 mended";
        TickGarden x = new TickGarden();
        due(UNKNOWN, x.mended(0, 0, 1, NONE));
        x.bucket(6, 0);
        due(0, x.mended(0, 0, 200, NONE));
        due(NONE, x.mended(0, 1, 200, NONE));
        due(UNKNOWN, x.mended(0, 201, 1, 0));
        due(UNKNOWN, x.mended(1, 0, 1, NONE));
        due(UNKNOWN, x.mended(0, 0, 1, -2));
        due(UNKNOWN, x.mended(LOW, HIGH, 0, HIGH));
        x.spout(0, 3, 1, 0);
        int[][] outside = {{-1, 1}, {201, 1}, {0, 0}, {0, 201}, {LOW, 1}, {HIGH, 1}, {0, LOW}, {0, HIGH}};
        for (int[] it : outside) {
            due(OUTSIDE, x.mended(0, it[0], it[1], NONE));
            due(OUTSIDE, x.mended(0, it[0], it[1], 0));
            due(UNKNOWN, x.mended(0, it[0], it[1], 1));
        }
        // in 12 ticks: drop 1 knocks 2 times, 2: 4, 3: 6, 4: 6, 5: 6
        mendedIs(x, 0, 6, 12, 0, 0);
        mendedIs(x, 0, 4, 12, 1, -1);
        mendedIs(x, 0, 2, 12, 2, -2);
        mendedIs(x, 0, 5, 12, NONE, 0);
        mendedIs(x, 0, 0, 12, NONE, 0);
        mendedIs(x, 0, 0, 1, 0, 0);
        mendedIs(x, 0, 200, 200, NONE, 0);
        x.turn(0, 4);
        mendedIs(x, 0, 12, 12, 2, 2);
        mendedIs(x, 0, 1, 1, 2, 2);
        mendedIs(x, 0, 200, 200, 2, 2);
        due(4, x.turn(0, 4));
        due(0, x.count(0));
        mendedEdges();
        mendedTies();
        mendedInWeather();
    }

    private static void mendedIs(TickGarden x, int b, int n, int ticks, int sum, int... changes) {
        due(sum, x.mended(b, n, ticks, NONE));
        for (int s = 0; s < changes.length; s++) {
            due(changes[s], x.mended(b, n, ticks, s));
        }
    }

    /** A drop stays in 0 to 20. */
    private static void mendedEdges() {
        TickGarden x = lone(1, 1, 0);
        mendedIs(x, 0, 0, 5, 1, -1);
        x.turn(0, 0);
        mendedIs(x, 0, 5, 5, 1, 1);
        x = new TickGarden();
        x.bucket(21, 0);
        x.spout(0, 20, 1, 0);
        mendedIs(x, 0, 1, 1, NONE, 0);
        x.turn(0, 19);
        mendedIs(x, 0, 1, 1, NONE, 0);
        x.bucket(20, 0);
        x.spout(1, 19, 1, 0);
        mendedIs(x, 1, 1, 1, 1, 0, 1);
        x.turn(1, 18);
        mendedIs(x, 1, 1, 1, 2, 0, 2);
        x.turn(1, 17);
        mendedIs(x, 1, 1, 1, NONE, 0, 0);
        // 1 less 2 would be -1, and with the wet 0
        x = lone(1, 1, 0);
        x.weather(0, 1);
        mendedIs(x, 0, 0, 1, NONE, 0);
        x.weather(0, 0);
        mendedIs(x, 0, 0, 1, 1, -1);
        // the first of all ways, and the last one
        x = lone(2, 1, 0);
        for (int s = 1; s < 4; s++) {
            x.spout(0, 2, 1, 0);
        }
        mendedIs(x, 0, 0, 3, 8, -2, -2, -2, -2);
        x = new TickGarden();
        x.bucket(8, 0);
        for (int s = 0; s < 4; s++) {
            x.spout(0, 0, 1, 0);
        }
        mendedIs(x, 0, 3, 3, 8, 2, 2, 2, 2);
    }

    /** Of ways with the same sum the one with the lesser change at the first spout where they differ. */
    private static void mendedTies() {
        TickGarden x = new TickGarden();
        x.bucket(8, 0);
        x.spout(0, 2, 30, 0);
        x.spout(0, 2, 30, 0);
        x.spout(0, 2, 30, 0);
        mendedIs(x, 0, 1, 1, 2, 0, 0, 2);
        x.turn(0, 1);
        mendedIs(x, 0, 1, 1, 3, 0, 1, 2);
        x.turn(1, 0);
        mendedIs(x, 0, 1, 1, 5, 1, 2, 2);
        x.turn(2, 1);
        mendedIs(x, 0, 1, 1, 6, 2, 2, 2);
        x.spout(0, 0, 30, 0);
        mendedIs(x, 0, 1, 1, 6, 0, 2, 2, 2);
        x.turn(3, 20);
        mendedIs(x, 0, 1, 1, 0, 0, 0, 0, 0);
        mendedIs(x, 0, 0, 1, NONE, 0, 0, 0, 0);

        // of 5 the bucket knocks each second tick, of 4 each third
        x = new TickGarden();
        x.bucket(10, 0);
        x.spout(0, 5, 1, 0);
        x.spout(0, 0, 1, 30);
        mendedIs(x, 0, 4, 12, 1, -1, 0);
        // either spout could give 1 less
        x = new TickGarden();
        x.bucket(6, 1);
        x.spout(0, 4, 2, 0);
        x.spout(0, 2, 2, 0);
        mendedIs(x, 0, 3, 6, 0, 0, 0);
        mendedIs(x, 0, 1, 4, 1, -1, 0);
        // of 4 and of 6 come 12 at a time, at tick 3 or 2; of 5 only 10
        x = new TickGarden();
        x.bucket(10, 0);
        x.bucket(11, 0);
        x.pipe(0, 1, 1);
        x.spout(0, 5, 1, 0);
        mendedIs(x, 1, 1, 4, 1, -1);
        mendedIs(x, 1, 1, 3, 1, 1);
        mendedIs(x, 1, 0, 4, 0, 0);
    }

    private static void mendedInWeather() {
        TickGarden x = new TickGarden();
        x.bucket(3, 0);
        x.spout(0, 2, 1, 0);
        x.weather(0, 1);
        x.frog(0, 4, 9);
        mendedIs(x, 0, 4, 10, 0, 0);
        mendedIs(x, 0, 2, 10, 1, -1);
        mendedIs(x, 0, 1, 10, 2, -2);
        mendedIs(x, 0, 5, 10, NONE, 0);
        x.weather(0, -4);
        mendedIs(x, 0, 0, 10, 0, 0);
        mendedIs(x, 0, 1, 10, NONE, 0);
    }

    public static void main(String[] args) {
        aNewObject();
        bucket();
        pipe();
        spout();
        turn();
        frog();
        weather();
        dry();
        told();
        count();
        tick();
        again();
        row();
        round();
        meeting();
        drip();
        hear();
        hush();
        blamed();
        mended();
        System.out.println(wrong == 0 ? asked + " answers are as due" : wrong + " answers are not as due");
        if (wrong != 0) {
            System.exit(1);
        }
    }
}
