/** Promises 17 to 30, the calls by which it is foretold: each sentence with a boundary case has a test of its own. */
public final class EdgeForetoldCallsTest {
    private static final long NONE = Driver.NONE, BAD = Driver.BAD, STATE = Driver.STATE;
    private static final long NULL = Driver.NULL, PLACE = Driver.PLACE;
    private static final int MIN = Driver.MIN, MAX = Driver.MAX;
    private static final String MIXED = "c4,2;p3,1,6;l5,0,7;b4,2,5;d6,1,9;s4,4,8;p9,9,2;";
    private static final int[] WILD = {-1, 0, 1, 2, 61, MIN, MAX};

    private static final Edges edges = new Edges();

    private EdgeForetoldCallsTest() {
    }

    private static int[] of(int... a) {
        return a;
    }

    /** Without a square it is STATE, whatever the numbers are. */
    private static void stateAheadOfBad(String name) {
        int numbers = Calls.arity(name);
        for (int first : WILD) {
            for (int second : WILD) {
                for (int third : numbers == 3 ? WILD : of(0)) {
                    int[] a = numbers == 3 ? of(first, second, third) : of(first, second);
                    edges.driver().changesNothing(STATE, name, a);
                }
            }
        }
        Driver t = edges.driver();
        t.tell("c0,1;p0,0,0;");
        t.due(STATE, name, numbers == 3 ? of(1, 1, 0) : of(1, 1));
    }

    private static void comes() {
        edges.promise(17, "AHEAD: LONG (what = 0), PLACE (1). BAD.");
        edges.endsOfPapers(0, "ahead", 0, 60, 1);
        edges.ends(MIXED, 1, 0, 60, "ahead", 5, 0, 0);
        edges.ends(MIXED, 2, 0, 1, "ahead", 5, 60, 0);
        Driver t = edges.driver("c9,1;l8,0,3;");
        int[][] due = {of(0, 3, 8), of(1, 3, 9), of(2, 3, 9), of(60, 3, 9)};
        for (int[] d : due) for (int what = 0; what < 2; what++) t.due(d[what + 1], "ahead", 0, d[0], what);

        edges.promise(18, "BITTEN: which (what = 0; NONE), how many (1).");
        t = edges.driver("c0,1;p0,0,7;l9,0,9;");
        due = new int[][] {of(1, 0, 7), of(2, (int) NONE, 0), of(3, (int) NONE, 0), of(4, 1, 0), of(60, 1, 0)};
        for (int[] d : due) for (int what = 0; what < 2; what++) t.due(d[what + 1], "bitten", d[0], what);

        edges.promise(18, "BAD; STATE: no SQUARE (ahead of BAD).");
        edges.ends(MIXED, 0, 1, 60, "bitten", 1, 1);
        edges.ends(MIXED, 1, 0, 1, "bitten", 1, 0);
        stateAheadOfBad("bitten");

        edges.promise(19, "LEFT: letters (what = 0), NAMELESS (1), CLOCK (2).");
        t = edges.driver("c9,2;p9,0,7;l9,1,9;");
        due = new int[][] {of(0, 16, 0, 9), of(1, 9, 1, 0), of(2, 9, 1, 1), of(11, 9, 1, 0), of(60, 9, 1, 9)};
        for (int[] d : due) for (int what = 0; what < 3; what++) t.due(d[what + 1], "left", d[0], what);

        edges.promise(19, "BAD; STATE: no SQUARE (ahead of BAD).");
        edges.ends(MIXED, 0, 0, 60, "left", 0, 0);
        edges.ends(MIXED, 1, 0, 2, "left", 60, 0);
        stateAheadOfBad("left");
    }

    private static void whenFirst() {
        edges.promise(20, "WHEN bitten (how = 0), NAMELESS (1); NONE. BAD.");
        edges.ends(MIXED, 1, 0, 1, "when", 1, 0);
        Driver t = edges.driver("c0,1;p0,0,1;b9,0,1;l9,9,1;");
        // the borrowed one takes the Latin one's only letter, then its own
        int[][] due = {of(1, 1), of(2, 3), of((int) NONE, 2)};
        for (int p = 0; p < 3; p++) for (int how = 0; how < 2; how++) t.due(due[p][how], "when", p, how);
        for (int p = -1; p <= 6; p++) {
            if (p < 0 || p > 2) t.due(BAD, "when", p, 0);
            edges.driver().due(BAD, "when", p, 0);
            edges.driver().due(BAD, "when", p, 1);
        }
        for (int p : of(MIN, MAX)) t.due(BAD, "when", p, 1);

        edges.promise(21, "OVER; NONE. STATE: no SQUARE.");
        t.due(3, "over");
        edges.driver("c0,1;l0,0,1;").due(NONE, "over");
        edges.driver().changesNothing(STATE, "over");
        t = edges.driver();
        t.tell("c0,1;p0,0,0;");
        t.due(STATE, "over");
    }

    private static void sought() {
        edges.promise(22, "STAND: which (what = 0), how many (1). BAD.");
        edges.endsOfPapers(0, "spot", 0, 60, 1);
        edges.ends(MIXED, 1, 1, 60, "spot", 5, 1, 0);
        edges.ends(MIXED, 2, 0, 1, "spot", 5, 60, 0);
        Driver t = edges.driver("c0,1;p8,0,3;p0,0,4;");
        int[][] due = {of(1, 9, 4), of(2, 0, 0), of(60, 0, 0)};
        for (int[] d : due) for (int what = 0; what < 2; what++) t.due(d[what + 1], "spot", 1, d[0], what);

        edges.promise(23, "DECOY; NONE. BAD: the same, too.");
        t = edges.driver("c0,1;s0,0,5;p0,5,4;");
        t.due(NONE, "decoy", 0, 1, 10);
        t.due(9, "decoy", 0, 1, 9);
        for (int p = -1; p <= 6; p++) t.changesNothing(BAD, "decoy", p, p, 1);
        for (int p : of(-1, 2, 6, MIN, MAX)) {
            t.changesNothing(BAD, "decoy", p, 0, 1);
            t.changesNothing(BAD, "decoy", 0, p, 1);
        }
        edges.ends("c0,1;l9,0,3;p0,5,4;", 2, 1, 40, "decoy", 1, 0, 1);
        edges.driver().changesNothing(BAD, "decoy", 0, 1, 1);

        edges.promise(24, "HIDE: how many (what = 0), which (1). BAD; STATE: no SQUARE (ahead of BAD).");
        edges.ends(MIXED, 0, 1, 40, "hides", 1, 0);
        edges.ends(MIXED, 1, 0, 1, "hides", 1, 0);
        stateAheadOfBad("hides");
        t = edges.driver("c0,1;s0,0,2;p0,1,1;");
        due = new int[][] {of(1, 0, 0), of(2, 0, 0), of(3, 1, 2), of(40, 1, 2)};
        for (int[] d : due) for (int what = 0; what < 2; what++) t.due(d[what + 1], "hides", d[0], what);
    }

    private static void setsAndShares() {
        edges.promise(25, "SETS: how many (what = 0), in all (1), in any (2). BAD; STATE: no SQUARE (ahead of BAD).");
        edges.ends(MIXED, 0, 0, 54, "sets", 0, 0);
        edges.ends(MIXED, 1, 0, 2, "sets", 0, 0);
        stateAheadOfBad("sets");
        Driver t = edges.driver("c0,1;p0,0,9;");
        int[][] due = {of(0, 1, 0, 0), of(8, 0, 0, 0), of(9, 1, 1, 1), of(10, 0, 0, 0), of(54, 0, 0, 0)};
        for (int[] d : due) for (int what = 0; what < 3; what++) t.due(d[what + 1], "sets", d[0], what);

        edges.promise(26, "SHARE. BAD.");
        edges.endsOfPapers(0, "share", 0, 999);
        edges.ends(MIXED, 1, 0, 999, "share", 5, 0);
        t.due(0, "share", 0, 0);
        t.due(1, "share", 0, 1);
        t.due(999, "share", 0, 999);

        edges.promise(27, "TURNS (may be below 0). BAD; STATE: no SQUARE (ahead of BAD).");
        edges.ends(MIXED, 0, 0, 4, "byTurns", 0, 1);
        edges.ends(MIXED, 1, 1, 20, "byTurns", 4, 1);
        stateAheadOfBad("byTurns");
        t = edges.driver("c0,1;p0,0,9;l9,0,9;");
        for (int n = 0; n <= 4; n++) t.due(-9, "byTurns", n, 20);
        t = edges.driver("c0,1;l9,0,9;p0,0,9;");
        for (int n = 0; n <= 4; n++) t.due(9, "byTurns", n, 20);
    }

    private static void who() {
        edges.promise(28, "KINDS (which = 0), PLACES (1), LONGS (2) of a PAPER, CLOCKS (3), n ITEMS of a ROW from i on.");
        Driver t = edges.driver("c9,1;l9,0,9;");
        t.x.row(0, 0, 40);
        for (int i : of(0, 27, 28)) t.due(4, "who", 0, 0, 0, i, 12);
        t.due(62, "who", 0, 0, 0, 39, 1);
        t.due(1023, "who", 0, 1, 0, 28, 12);
        t.due(2 + 8 + 32 + 128 + 512, "who", 0, 2, 0, 28, 12);
        t.due(1023, "who", 0, 3, 0, 28, 12);
        t.x.set(0, 39, 1);
        t.due(4, "who", 0, 0, 0, 27, 12);
        t.due(0, "who", 0, 0, 0, 28, 12);
        t.x.set(0, 26, 1);
        t.due(4, "who", 0, 0, 0, 27, 12);
        t.due(0, "who", 0, 0, 0, 26, 12);

        edges.promise(28, "BAD: PAPER, which, ROW, n; NULL; PLACE.");
        t.x.row(1, 2, 0);
        for (int p : of(-1, 1, 6, MIN, MAX)) for (int which = 0; which < 4; which++) t.due(BAD, "who", p, which, 0, 0, 1);
        for (int which : of(-1, 4, MIN, MAX)) t.changesNothing(BAD, "who", 0, which, 0, 0, 1);
        for (int row : of(-1, 8, MIN, MAX)) t.changesNothing(BAD, "who", 0, 0, row, 0, 1);
        for (int n : of(-1, 0, 13, MIN, MAX)) {
            for (int row : of(0, 1, 7)) t.changesNothing(BAD, "who", 0, 0, row, 0, n);
        }
        for (int i : of(-1, 0, 40, MIN, MAX)) {
            t.due(NULL, "who", 0, 0, 7, i, 1);
            t.due(i == 0 ? 62 : PLACE, "who", 0, 0, 0, i, 1);
            t.due(PLACE, "who", 0, 0, 1, i, 1);
        }
        t.due(PLACE, "who", 0, 0, 0, 29, 12);
        t.due(PLACE, "who", 0, 0, 0, MAX, 12);
        t.due(PLACE, "who", 0, 0, 0, -1, 2);
        for (int p : of(-1, 0, 5)) edges.driver().changesNothing(BAD, "who", p, 0, 0, 0, 1);
    }

    private static void chances() {
        edges.promise(29, "RAIN: above (what = 0), below (1). BAD.");
        edges.endsOfPapers(0, "rain", 0, 60, 5, 1);
        edges.ends(MIXED, 1, 0, 60, "rain", 5, 0, 5, 1);
        edges.ends(MIXED, 2, 0, 10, "rain", 5, 60, 0, 1);
        edges.ends(MIXED, 3, 0, 1, "rain", 5, 60, 5, 0);
        Driver t = edges.driver("c0,1;p0,0,4;");
        int[][] due = {of(0, 0, 1), of(1, 1, 10), of(9, 9, 10), of(10, 1, 1)};
        for (int[] d : due) for (int what = 0; what < 2; what++) t.due(d[what + 1], "rain", 0, 60, d[0], what);

        edges.promise(30, "YEARS by a SEED (1 to 999999): EATEN (what = 0), letters (1).");
        edges.ends(MIXED, 1, 1, 999999, "drawn", 60, 1, 0);
        // X is 16807, or 1774597664: neither is a multiple of 3, so that no paper is moved
        t = edges.driver("c0,1;p0,0,4;p0,1,5;");
        for (int seed : of(1, 999999)) {
            t.due(4, "drawn", 1, seed, 0);
            t.due(5, "drawn", 1, seed, 1);
        }

        edges.promise(30, "BAD; STATE: no SQUARE (ahead of BAD).");
        edges.ends(MIXED, 0, 0, 60, "drawn", 0, 999999, 0);
        edges.ends(MIXED, 2, 0, 1, "drawn", 60, 999999, 0);
        stateAheadOfBad("drawn");
    }

    public static void main(String[] args) {
        comes();
        whenFirst();
        sought();
        setsAndShares();
        who();
        chances();
        edges.end();
    }
}
