/** The Terms' last part (what fits, rain, years, kinds, asks): each sentence with a boundary case has its own test. */
public final class EdgeFittingTest {
    private static final long NONE = Driver.NONE, BAD = Driver.BAD, KIND = Driver.KIND;
    private static final String MIXED = "c4,2;p3,1,6;l5,0,7;b4,2,5;d6,1,9;s4,4,8;p9,9,2;";
    /** All are nameless behind 60 noons, and not behind 59. */
    private static final String LATE = "c3,2;l4,2,9;s2,5,1;b0,7,2;b9,3,7;s8,0,5;l4,1,1;";
    private static final String KINDS = "c0,1;p3,0,5;l4,0,6;b5,0,7;d6,0,8;s7,0,9;";

    private static final Edges edges = new Edges();

    private EdgeFittingTest() {
    }

    private static int[] of(int... a) {
        return a;
    }

    // ---- of which kind a paper is, where it was, how long, where the clock was

    private static void rowsThatTell() {
        edges.terms("A row tells which PAPER is bitten (99: none)");
        Driver t = edges.driver("c0,1;p0,0,4;");
        t.x.row(0, 2, 1);
        for (int v : of(0, 1, 5, 6, 98, 99, 100, -1, (int) NONE, Driver.MIN, Driver.MAX)) {
            t.x.set(0, 0, v);
            t.due(v == 0 ? 1022 : 0, "who", 0, 2, 0, 0, 1);
        }
        t.x.hide(0);
        for (int v : of(0, 1, 5, 6, 98, 99, 100, -1, (int) NONE, Driver.MIN, Driver.MAX)) {
            t.x.set(0, 0, v);
            t.due(v == 99 ? 1022 : 0, "who", 0, 2, 0, 0, 1);
        }
        for (int lane = 0; lane < 3; lane++) {
            t.x.row(0, lane, 1);
            t.x.set(0, 0, 99);
            t.due(1022, "who", 0, 2, 0, 0, 1);
        }

        t = edges.driver("c0,1;p0,0,7;s9,9,9;");
        t.due(7, "noons", 1);
        t.line(0, 99, 99, 1);
        for (int n = 1; n <= 3; n++) for (int which = 0; which < 4; which++) {
            t.due(of(62, 1023, 1022, 1023)[which], "who", 1, which, 0, 0, n);
        }
        t.line(0, 1);
        for (int which = 0; which < 4; which++) t.due(0, "who", 1, which, 0, 0, 1);

        edges.terms("at each of n NOONS (1 to 12) from now on.");
        t = edges.driver("c0,1;s0,0,9;s0,1,9;");
        t.line(0, 0, 0, 0, 0, 0, 0, 0, 0, 0, 1, 1, 0, 5);
        int[] due = {1022, 1020, 1016, 1008, 992, 960, 896, 768, 512, 512, 512, 0};
        for (int n = 1; n <= 12; n++) t.due(due[n - 1], "who", 0, 2, 0, 0, n);
        t.due(BAD, "who", 0, 2, 0, 0, 0);
        t.due(BAD, "who", 0, 2, 0, 0, 13);
        t.line(0, 5, 0, 0, 0, 0, 0, 0, 0, 0, 0, 1, 1, 1);
        t.due(512, "who", 0, 2, 0, 1, 12);
        t.due(0, "who", 0, 2, 0, 0, 12);
    }

    private static void whatFits() {
        edges.terms("KINDS (bits 1 to 5), PLACES (0 to 9, bits), LONGS (1 to 9, bits) of a PAPER by which it is so.");
        Driver t = edges.driver("c0,1;p0,0,4;p9,9,9;");
        t.line(0, 99);
        t.line(1, 0);
        t.due(62, "who", 0, 0, 1, 0, 1);
        t.due(1023, "who", 0, 1, 1, 0, 1);
        t.due(1022, "who", 0, 2, 1, 0, 1);
        for (int which = 0; which < 4; which++) t.due(0, "who", 0, which, 0, 0, 1);
        t.x.hide(0);
        t.x.hide(1);
        t.due(62, "who", 0, 0, 0, 0, 1);
        t.due(1023, "who", 0, 1, 0, 0, 1);
        t.due(1022, "who", 0, 2, 0, 0, 1);
        t = edges.driver("c4,1;p9,0,4;p4,5,4;");
        t.line(0, 0);
        t.due(1023, "who", 0, 1, 0, 0, 1);
        t.x.clock(0);
        t.due(1023, "who", 0, 1, 0, 0, 1);
        t = edges.driver("c0,1;p9,0,4;p0,0,4;");
        t.line(0, 0);
        t.line(1, 1);
        t.due(1, "who", 0, 1, 0, 0, 1);
        t.due(1022, "who", 0, 1, 1, 0, 1);
        t.x.move(0, 0);
        t.due(1008, "who", 0, 2, 0, 0, 1);
        t.due(14, "who", 0, 2, 1, 0, 1);
        t.due(4, "noons", 1);
        t.due(0, "paper", 0, 2);
        t.due(1008, "who", 0, 2, 0, 0, 1);

        edges.terms("CLOCKS (0 to 9, bits) now by which it is so.");
        t = edges.driver("c5,1;p0,0,4;p9,0,4;");
        t.line(0, 0);
        t.line(1, 1);
        for (int paper = 0; paper < 2; paper++) {
            t.due(31, "who", paper, 3, 0, 0, 1);
            t.due(992, "who", paper, 3, 1, 0, 1);
        }
        t.x.hide(0);
        t.due(0, "who", 0, 3, 0, 0, 1);
        t.due(1023, "who", 0, 3, 1, 0, 1);
    }

    // ---- rain, years

    private static void rain() {
        edges.terms("RAIN by p of 10 (0 to 10): each PAPER that is not HIDDEN is HIDDEN from now on in p of 10 cases, apart:");
        edges.ends(MIXED, 2, 0, 10, "rain", 0, 0, 0, 1);
        String text = "c0,1;p0,0,1;p0,1,1;p0,2,1;p0,3,1;p0,4,1;p0,5,1;";
        Driver t = edges.driver(text);
        // it is rained off, or none is: of a million cases with 9 or 7 of 10 that are dry
        int[][] due = {of(0, 1, 1), of(1, 100000 + 531441, 1000000), of(3, 300000 + 117649, 1000000), of(5, 33, 64),
            of(10, 1, 1)};
        for (int[] d : due) for (int what = 0; what < 2; what++) t.due(d[what + 1], "rain", 5, 5, d[0], what);
        t.due(0, "rain", 5, 6, 0, 0);
        t.due(1, "rain", 5, 6, 0, 1);
        t.due(3, "rain", 5, 6, 3, 0);
        t.due(10, "rain", 5, 6, 3, 1);
        for (int p = 0; p < 5; p++) t.x.hide(p);
        t.due(3, "rain", 5, 1, 3, 0);
        t.due(10, "rain", 5, 1, 3, 1);
        t.x.hide(5);
        for (int what = 0; what < 2; what++) t.due(1, "rain", 5, 60, 3, what);

        edges.terms("how likely a PAPER is not NAMELESS behind n NOONS (0 to 60): a fraction.");
        edges.ends(MIXED, 1, 0, 60, "rain", 0, 0, 5, 1);
        t = edges.driver(LATE);
        boolean[] last = new boolean[6];
        for (int p = 0; p < 6; p++) last[p] = t.x.ahead(p, 59, 0) > 0;
        for (int p = 0; p < 6; p++) {
            t.due(last[p] ? 1 : 0, "rain", p, 59, 0, 0);
            t.due(0, "rain", p, 60, 0, 0);
            t.due(1, "rain", p, 60, 0, 1);
            t.due(1, "rain", p, 60, 10, 0);
            t.due(1, "rain", p, 0, 5, 0);
        }
        t = edges.driver("c0,1;p0,0,4;");
        t.x.noons(1);
        for (int p : of(0, 5, 10)) {
            t.due(0, "rain", 0, 0, p, 0);
            t.due(1, "rain", 0, 0, p, 1);
        }
    }

    /** Years as they come by real acts: what the document tells, done by move, write and noons. */
    private static int[] yearsByActs(String text, int n, int seed) {
        Driver t = edges.driver(text);
        long x = seed;
        int eaten = 0;
        for (int i = 0; i < n; i++) {
            x = x * 16807L % 2147483647L;
            int paper = (int) (x % t.x.count(1));
            if (t.x.paper(paper, 2) == 0) t.x.write(paper, (int) (x % 9 + 1));
            else if (x % 3 == 0) t.x.move(paper, (int) (x / 8 % 10));
            eaten += t.x.noons(1);
        }
        return of(eaten, t.x.count(4));
    }

    private static void years() {
        edges.terms("YEARS of n NOONS (0 to 60) by a SEED (X at first):");
        edges.ends(MIXED, 0, 0, 60, "drawn", 0, 1, 0);
        Driver t = edges.driver(MIXED);
        t.due(0, "drawn", 0, 1, 0);
        t.due(37, "drawn", 0, 1, 1);
        for (int n : of(0, 1, 59, 60)) {
            int[] due = yearsByActs(MIXED, n, 7);
            for (int what = 0; what < 2; what++) t.due(due[what], "drawn", n, 7, what);
        }

        edges.terms("ahead of each X becomes the rest of (X times 16807) by 2147483647;");
        for (String text : new String[] {MIXED, LATE, "c0,1;p0,0,9;", "c9,2;l9,0,9;d0,0,1;", "c0,0;b0,0,1;s1,1,1;p2,2,2;"}) {
            t = edges.driver(text);
            for (int seed : of(1, 2, 127774, 127773, 500000, 999998, 999999)) {
                for (int n : of(1, 2, 3, 60)) {
                    int[] due = yearsByActs(text, n, seed);
                    for (int what = 0; what < 2; what++) t.due(due[what], "drawn", n, seed, what);
                }
            }
        }

        edges.terms("the PAPER that is the rest of X by how many there are, if it is NAMELESS, is written anew: LONG the rest of X "
            + "by 9 and 1;");
        t = edges.driver("c0,1;p0,0,1;");
        t.x.noons(1);
        t.x.hide(0);
        for (int seed = 1; seed <= 18; seed++) t.due(16807 * seed % 9 + 1, "drawn", 1, seed, 1);
        t.due(1, "drawn", 1, 9, 1);
        t.due(9, "drawn", 1, 2, 1);
        t = edges.driver("c0,1;p0,0,1;p0,0,2;p0,0,3;p0,0,4;p0,0,5;p0,0,6;");
        t.x.hide(0);
        t.x.hide(5);
        // 16807 times 6 leaves 0, times 5 leaves 5: the first and the last have letters, and none is written
        for (int seed : of(5, 6)) t.due(16, "drawn", 1, seed, 1);
        t.x.noons(4);
        for (int seed = 1; seed <= 6; seed++) {
            int paper = 16807 * seed % 6;
            boolean kept = paper == 0 || paper == 5;
            t.due(7, "drawn", 1, seed, 1);
            t.due(kept ? 0 : 16807 * seed % 9 + 1, "drawn", 1, seed, 0);
        }

        edges.terms("else, if X by 3 leaves 0, it is moved to the PLACE that is X by 8 (cut) by 10 left over; then the NOON:");
        boolean[] seen = new boolean[10];
        for (int seed = 2; seed <= 200; seed += 2) {
            int x = 16807 * seed;
            int place = x % 3 == 0 ? x / 8 % 10 : 9;
            seen[place] = true;
            for (int other = 0; other <= 9; other++) {
                t = edges.driver("c0,1;p9,0,4;p" + other + ",0,3;");
                t.due(place <= other ? 4 : 3, "drawn", 1, seed, 0);
            }
        }
        for (int place = 0; place <= 9; place++) edges.check.holds("a draw moves it to " + place, seen[place]);

        edges.terms("EATEN in them; letters of all at last.");
        t = edges.driver("c0,1;p0,0,5;p9,9,4;");
        t.x.noons(1);
        t.due(5, "count", 3);
        t.due(0, "drawn", 0, 1, 0);
        t.due(4, "drawn", 0, 1, 1);
    }

    // ---- kinds, asks

    private static void kinds() {
        edges.terms("KINDS of PAPERS: 0 PAPER; 1 PLAIN, a PAPER; 2 LATIN, a PLAIN one; 3 BORROWED, a PLAIN one; 4 DOUBLE, a "
            + "PAPER; 5 STREET, a DOUBLE one.");
        String[] are = {"01", "012", "013", "04", "045"};
        Driver t = edges.driver(KINDS);
        for (int p = 0; p < 5; p++) {
            for (int kind = 0; kind <= 5; kind++) {
                boolean is = are[p].indexOf((char) ('0' + kind)) >= 0;
                t.due(is ? p : KIND, "as", p, kind);
            }
            t.due(BAD, "as", p, -1);
            t.due(BAD, "as", p, 6);
        }
    }

    private static void traceIs(Driver t, int... numbers) {
        for (int i = 0; i < 17; i++) t.due(i < numbers.length ? numbers[i] : NONE, "trace", i);
    }

    private static long mark(char sort, int number, int place, int letters) {
        switch (sort) {
            case 'p': return number + place;
            case 'l': return 2 * (number + place);
            case 'b': return number + place - 1000;
            default: return number - size(sort, number, place, letters);
        }
    }

    private static long size(char sort, int number, int place, int letters) {
        switch (sort) {
            case 'l': return -(letters + mark(sort, number, place, letters));
            case 'd': return letters - 100;
            case 's': return 2 * (letters - 100);
            default: return letters + mark(sort, number, place, letters);
        }
    }

    private static void bodiesOf(Driver t, char sort, int number) {
        int place = t.x.paper(number, 0), letters = t.x.paper(number, 2);
        t.due(size(sort, number, place, letters), "ask", number, 0);
        t.due(mark(sort, number, place, letters), "ask", number, 1);
    }

    private static void bodies() {
        edges.terms("11 of PLAIN ones: what 10 gives, and MARK. 12 of LATIN ones: 0 less what 11 gives. 13 of DOUBLE ones: what 10 "
            + "gives, less 100. 14 of those of STREETS: what 13 gives, twice. 1 MARK: 20 lent to all PAPERS: the number. 21 of "
            + "PLAIN ones: what 20 gives, and PLACE. 22 of BORROWED ones: what 21 gives, less 1000. 23 of DOUBLE ones: what 20 "
            + "gives, less SIZE. 24 of LATIN ones: what 21 gives, twice.");
        for (char sort : "plbds".toCharArray()) {
            for (int place : of(0, 9)) {
                Driver t = edges.driver("c0,1;" + (sort + "" + place + ",0,1;" + sort + place + ",0,9;").repeat(3));
                for (int number = 0; number < 6; number++) bodiesOf(t, sort, number);
                t = edges.driver("c0,1;" + (sort + "" + place + ",0,2;").repeat(6));
                t.x.noons(24);
                t.due(63, "stand", 4);
                for (int number = 0; number < 6; number++) bodiesOf(t, sort, number);
            }
        }
    }

    private static void asks() {
        edges.terms("each of which leaves its number in THE TRACE as it begins (the first 16)");
        Driver t = edges.driver(KINDS);
        traceIs(t);
        t.due(-16, "ask", 1, 0);
        traceIs(t, 12, 11, 10, 24, 21, 20);
        t.due(-92, "ask", 3, 0);
        traceIs(t, 13, 10);
        for (int again = 0; again < 5; again++) t.due(186, "ask", 4, 1);
        traceIs(t, 23, 20, 14, 13, 10);
        for (int i : of(-1, 16, 17, Driver.MIN, Driver.MAX)) t.due(NONE, "trace", i);

        edges.terms("(Of an ask the BODY told for the KIND begins, else that of the nearest KIND that it is, too, else the one that "
            + "is lent; SIZE, MARK within others are asked of the same PAPER anew.)");
        t.due(-986, "ask", 2, 0);
        traceIs(t, 11, 10, 22, 21, 20);
        t.due(-993, "ask", 2, 1);
        traceIs(t, 22, 21, 20);
        t.due(186, "ask", 4, 1);
        traceIs(t, 23, 20, 14, 13, 10);

        bodies();

        edges.terms("0 SIZE: 10 lent to all PAPERS: LONG.");
        t = edges.driver("c0,1;d0,0,9;l9,9,9;s9,0,1;p0,9,1;");
        for (int letters : of(9, 4, 2, 1, 0)) {
            t.due(letters - 100, "ask", 0, 0);
            t.x.noons(1);
        }
        t.due(0, "paper", 0, 2);
        t.due(-200, "ask", 2, 0);
    }

    public static void main(String[] args) {
        rowsThatTell();
        whatFits();
        rain();
        years();
        kinds();
        asks();
        edges.end();
    }
}
