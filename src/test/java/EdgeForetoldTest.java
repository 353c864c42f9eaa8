import java.util.Arrays;

/** The Terms' third part (what is foretold): each sentence with a boundary case has a test of its own. */
public final class EdgeForetoldTest {
    private static final long NONE = Driver.NONE, BAD = Driver.BAD;
    /** All are nameless behind 60 noons, and not behind 59. */
    private static final String LATE = "c3,2;l4,2,9;s2,5,1;b0,7,2;b9,3,7;s8,0,5;l4,1,1;";
    /** All are nameless behind 61 noons. */
    private static final String TOO_LATE = "c5,2;b2,5,1;s9,2,2;s3,3,8;b5,7,7;l8,2,9;s4,2,2;";
    private static final String STREETS = "c0,0;s0,0,9;s0,0,9;s0,0,9;s0,0,9;s0,0,9;s0,0,9;";
    private static final String MIXED = "c4,2;p3,1,6;l5,0,7;b4,2,5;d6,1,9;s4,4,8;p9,9,2;";
    private static final String TWO = "c0,1;p0,0,4;p0,1,5;";
    private static final String[] ALL = {LATE, TOO_LATE, STREETS, MIXED, TWO};

    private static final Edges edges = new Edges();

    private EdgeForetoldTest() {
    }

    private static int[] of(int... a) {
        return a;
    }

    private static void nothingChanges() {
        edges.terms("FORETOLD (nothing changes).");
        Object[][] calls = {{"ahead", of(0, 60, 0)}, {"bitten", of(60, 0)}, {"left", of(60, 0)}, {"when", of(1, 0)},
            {"when", of(1, 1)}, {"over", of()}, {"spot", of(0, 60, 0)}, {"decoy", of(0, 1, 40)}, {"hides", of(40, 1)},
            {"sets", of(7, 0)}, {"share", of(0, 999)}, {"byTurns", of(4, 20)}, {"who", of(0, 0, 0, 0, 12)},
            {"who", of(0, 1, 0, 0, 12)}, {"who", of(0, 2, 0, 0, 12)}, {"who", of(0, 3, 0, 0, 12)},
            {"rain", of(0, 60, 5, 0)}, {"drawn", of(60, 999999, 0)}};
        for (String text : ALL) {
            Driver t = edges.driver(text);
            t.line(0, 0, 0, 0, 0, 0, 0, 0, 0, 0, 0, 0, 0);
            t.x.noons(2);
            t.x.ask(0, 0);
            for (Object[] call : calls) {
                String before = t.look();
                edges.check.holds(call[0] + " is answered", t.call((String) call[0], (int[]) call[1]) >= NONE);
                edges.check.same("all behind " + call[0] + Arrays.toString((int[]) call[1]), t.look(), before);
            }
        }
    }

    // ---- what is foretold is what comes

    private static void ahead() {
        edges.terms("AHEAD by n NOONS (0 to 60) of a PAPER: LONG; its PLACE.");
        for (String text : ALL) {
            Driver told = edges.driver(text);
            Driver comes = edges.driver(text);
            for (int n : of(0, 1, 2, 30, 59, 60)) {
                while (comes.x.count(2) < n) comes.x.noons(1);
                for (int p = 0; p < comes.x.count(1); p++) {
                    told.due(comes.x.paper(p, 2), "ahead", p, n, 0);
                    told.due(comes.x.paper(p, 0), "ahead", p, n, 1);
                }
            }
        }
        edges.ends(MIXED, 1, 0, 60, "ahead", 0, 0, 0);
    }

    private static void bitten() {
        edges.terms("BITTEN at the n-th NOON from now on (1 to 60): which PAPER (NONE); how many letters were lost at it.");
        for (String text : ALL) {
            Driver told = edges.driver(text);
            Driver comes = edges.driver(text);
            for (int n = 1; n <= 60; n++) {
                told.due(comes.x.stand(6), "bitten", n, 0);
                told.due(comes.x.noons(1), "bitten", n, 1);
            }
        }
        edges.ends(MIXED, 0, 1, 60, "bitten", 1, 1);
        Driver t = edges.driver("c0,1;p0,0,6;");
        t.due(0, "bitten", 1, 0);
        t.due(6, "bitten", 1, 1);
        for (int n : of(2, 3, 60)) {
            t.due(NONE, "bitten", n, 0);
            t.due(0, "bitten", n, 1);
        }
    }

    private static void left() {
        edges.terms("LEFT behind n NOONS (0 to 60): letters of all, together; who is NAMELESS (bits); CLOCK.");
        for (String text : ALL) {
            Driver told = edges.driver(text);
            Driver comes = edges.driver(text);
            for (int n : of(0, 1, 2, 30, 59, 60)) {
                while (comes.x.count(2) < n) comes.x.noons(1);
                told.due(comes.x.count(4), "left", n, 0);
                told.due(comes.x.stand(4), "left", n, 1);
                told.due(comes.x.stand(1), "left", n, 2);
            }
        }
        edges.ends(MIXED, 0, 0, 60, "left", 0, 0);
        Driver t = edges.driver(LATE);
        t.due(2, "left", 59, 2);
        t.due(3, "left", 60, 2);
        t.due(0, "left", 60, 0);
        t.due(63, "left", 60, 1);
    }

    private static void when() {
        edges.terms("WHEN a PAPER is bitten first, is NAMELESS first: behind how many NOONS (0 to 60; bitten: 1 to 60); NONE.");
        Driver t = edges.driver("c0,1;p0,0,4;p9,9,4;l9,9,3;");
        t.due(1, "when", 0, 0);
        t.due(1, "when", 0, 1);
        t.due(2, "when", 1, 0);
        t.due(3, "when", 2, 0);
        t.due(NONE, "when", 2, 1);
        t.x.noons(1);
        t.due(NONE, "when", 0, 0);
        t.due(0, "when", 0, 1);
        t.x.hide(1);
        t.due(NONE, "when", 1, 0);
        t.due(NONE, "when", 1, 1);
        String[] bitten = {"c4,2;s8,9,4;s4,6,1;l2,0,9;b4,7,7;b1,7,2;b9,1,1;", "c1,2;s0,7,9;b6,8,4;l9,3,2;s0,8,1;l7,2,1;s1,7,8;"};
        t = edges.driver(bitten[0]);
        t.due(60, "when", 3, 0);
        t = edges.driver(bitten[1]);
        t.due(NONE, "when", 3, 0);
        t.x.noons(1);
        t.due(60, "when", 3, 0);
        t = edges.driver("c1,2;s1,2,2;l7,1,1;b1,7,1;l3,0,9;l3,9,1;");
        t.due(NONE, "when", 4, 1);
        t.x.noons(1);
        t.due(60, "when", 4, 1);
        t.x.noons(1);
        t.due(59, "when", 4, 1);
    }

    private static void over() {
        edges.terms("OVER: behind how many NOONS (0 to 60) all are NAMELESS first; NONE.");
        Driver t = edges.driver(LATE);
        t.due(60, "over");
        t.x.noons(1);
        t.due(59, "over");
        t = edges.driver(TOO_LATE);
        t.due(NONE, "over");
        t.x.noons(1);
        t.due(60, "over");
        t = edges.driver("c0,1;p0,0,9;");
        t.due(1, "over");
        t.x.noons(1);
        t.due(0, "over");
        t.x.write(0, 1);
        t.due(5, "over");
        t.x.hide(0);
        t.due(NONE, "over");
        edges.driver(STREETS).due(54, "over");
        edges.driver("c0,1;p0,0,9;l0,0,1;").due(NONE, "over");
    }

    // ---- what is sought

    /** Letters that a paper really has behind noons, when it was moved to a place. */
    private static int lettersFrom(String text, int paper, int place, int n) {
        Driver t = edges.driver(text);
        t.x.move(paper, place);
        for (int i = 0; i < n; i++) t.x.noons(1);
        return t.x.paper(paper, 2);
    }

    private static void stand() {
        edges.terms("STAND of a PAPER for n NOONS (1 to 60): the PLACE at which it should be from now on so that it has most "
            + "letters behind them");
        edges.ends(MIXED, 1, 1, 60, "spot", 0, 1, 0);
        for (String text : ALL) {
            Driver t = edges.driver(text);
            for (int p = 0; p < t.x.count(1); p++) {
                for (int n : of(1, 2, 12, 59, 60)) {
                    int best = 0;
                    for (int place = 1; place <= 9; place++) {
                        if (lettersFrom(text, p, place, n) > lettersFrom(text, p, best, n)) best = place;
                    }
                    t.due(best, "spot", p, n, 0);
                    t.due(lettersFrom(text, p, best, n), "spot", p, n, 1);
                }
            }
        }
        Driver t = edges.driver("c0,1;p0,0,4;s8,0,9;");
        t.due(9, "spot", 0, 9, 0);
        t.due(4, "spot", 0, 9, 1);
        t.due(0, "spot", 0, 10, 1);

        edges.terms("of several the least: which; how many.");
        t = edges.driver("c9,1;p5,0,4;l9,0,3;");
        t.due(0, "spot", 0, 60, 0);
        t.due(4, "spot", 0, 60, 1);
        t = edges.driver(TWO);
        t.due(0, "spot", 0, 2, 0);
        t.due(0, "spot", 0, 2, 1);
        t.due(1, "spot", 0, 1, 0);
        t.due(4, "spot", 0, 1, 1);
    }

    private static void decoy() {
        edges.terms("DECOY of a PAPER for another one, n NOONS (1 to 40):");
        String text = "c0,1;s0,0,9;s0,1,9;s0,2,9;s0,3,9;s0,4,9;p0,5,4;";
        Driver t = edges.driver(text);
        int[][] due = {of(1, 1), of(37, 1), of(38, 2), of(39, 3), of(40, 4)};
        for (int[] d : due) t.due(d[1], "decoy", 0, 5, d[0]);
        edges.ends(text, 2, 1, 40, "decoy", 0, 5, 1);

        edges.terms("the least LONG (1 to 9) that the one should have now, so that the other one loses no letters in them; "
            + "NONE.");
        t = edges.driver("c0,1;s0,0,5;p0,5,4;");
        for (int n = 1; n <= 9; n++) t.due(n, "decoy", 0, 1, n);
        t.due(NONE, "decoy", 0, 1, 10);
        t.due(NONE, "decoy", 0, 1, 40);
        t.due(NONE, "decoy", 1, 0, 1);
        t.x.hide(0);
        t.due(NONE, "decoy", 0, 1, 1);
        t.due(1, "decoy", 1, 0, 40);
        t.due(4, "noons", 1);
        t.due(1, "decoy", 0, 1, 40);
    }

    private static void hide() {
        edges.terms("HIDE for n NOONS (1 to 40): the fewest PAPERS that should be HIDDEN from now on,");
        String text = "c0,1;s0,0,9;s0,1,9;s0,2,9;s0,3,9;s0,4,3;p0,5,4;";
        Driver t = edges.driver(text);
        for (int[] d : new int[][] {of(1, 0, 0), of(39, 0, 0), of(40, 1, 32)}) {
            t.due(d[1], "hides", d[0], 0);
            t.due(d[2], "hides", d[0], 1);
        }
        edges.ends(text, 0, 1, 40, "hides", 1, 0);
        t = edges.driver("c0,1;p0,0,1;p0,0,1;p0,0,1;p0,0,1;p0,0,1;p0,0,1;");
        t.due(6, "hides", 1, 0);
        t.due(63, "hides", 1, 1);

        edges.terms("all others shown,");
        t = edges.driver(text);
        t.x.hide(0);
        t.x.hide(5);
        t.due(0, "hides", 39, 0);
        t.due(0, "hides", 39, 1);
        t.due(1, "hides", 40, 0);
        t.due(32, "hides", 40, 1);

        edges.terms("so that no PAPER loses letters in them but NAMELESS, HIDDEN ones, those of streets:");
        t = edges.driver("c0,1;b0,0,2;p0,0,9;");
        t.due(2, "hides", 5, 1);
        t.due(3, "hides", 6, 1);
        t = edges.driver("c0,1;p0,0,1;");
        t.due(1, "hides", 1, 0);
        t.x.noons(1);
        t.due(0, "hides", 40, 0);
        edges.driver("c0,1;s0,0,1;").due(0, "hides", 40, 0);
        edges.driver("c0,1;d0,0,1;").due(1, "hides", 40, 0);

        edges.terms("how many; which (bits), of several the least.");
        edges.driver("c0,1;b0,0,1;l5,0,3;").due(1, "hides", 1, 1);
        edges.driver("c0,1;l5,0,3;b0,0,1;").due(1, "hides", 1, 1);
        edges.driver("c0,1;s9,9,1;b0,0,1;l5,0,3;").due(2, "hides", 1, 1);
    }

    // ---- sets, shares, turns

    private static void sets() {
        edges.terms("SETS of v (0 to 54):");
        String text = "c0,1;p0,0,9;p0,0,9;p0,0,9;p0,0,9;p0,0,9;p0,0,9;";
        Driver t = edges.driver(text);
        int[][] due = {of(0, 1, 0, 0), of(9, 6, 0, 63), of(27, 20, 0, 63), of(45, 6, 0, 63), of(53, 0, 0, 0), of(54, 1, 63, 63)};
        for (int[] d : due) for (int what = 0; what < 3; what++) t.due(d[what + 1], "sets", d[0], what);
        edges.ends(text, 0, 0, 54, "sets", 0, 0);

        edges.terms("sets of PAPERS that are not NAMELESS of v letters together: how many;");
        t = edges.driver("c0,1;p0,0,4;p9,0,3;");
        t.due(1, "sets", 0, 0);
        t.due(1, "sets", 4, 0);
        t.due(1, "sets", 3, 0);
        t.due(1, "sets", 7, 0);
        t.x.noons(1);
        t.due(1, "sets", 0, 0);
        t.due(0, "sets", 4, 0);
        t.due(1, "sets", 3, 0);
        t.due(2, "sets", 3, 1);
        t.due(2, "sets", 3, 2);
        t.x.hide(1);
        t.due(1, "sets", 3, 0);
        t.x.hide(1);
        t.x.noons(1);
        t.due(1, "sets", 0, 0);
        t.due(0, "sets", 1, 0);

        edges.terms("PAPERS (bits) that are in all of these (none: 0); in any.");
        t = edges.driver("c0,1;p0,0,4;p9,0,4;p9,0,1;");
        t.due(2, "sets", 5, 0);
        t.due(4, "sets", 5, 1);
        t.due(7, "sets", 5, 2);
        for (int v : of(2, 3, 6, 7, 10, 54)) for (int what = 0; what < 3; what++) t.due(0, "sets", v, what);
        t.due(0, "sets", 0, 1);
        t.due(0, "sets", 0, 2);
    }

    private static void share() {
        edges.terms("SHARE of n (0 to 999):");
        String text = "c0,1;p0,0,1;p0,0,1;p0,0,1;p0,0,1;p0,0,1;p0,0,1;";
        Driver t = edges.driver(text);
        int[][] due = {of(0, 0, 0, 0, 0, 0, 0), of(1, 1, 0, 0, 0, 0, 0), of(5, 1, 1, 1, 1, 1, 0), of(6, 1, 1, 1, 1, 1, 1),
            of(7, 2, 1, 1, 1, 1, 1), of(999, 167, 167, 167, 166, 166, 166)};
        for (int[] d : due) for (int p = 0; p < 6; p++) t.due(d[p + 1], "share", p, d[0]);
        edges.ends(text, 1, 0, 999, "share", 0, 0);

        edges.terms("each PAPER gets as many as n times LONG by all LONG (cut),");
        t = edges.driver("c0,1;p9,0,1;");
        for (int n : of(0, 1, 2, 999)) t.due(n, "share", 0, n);
        t = edges.driver("c0,1;p9,0,1;p9,0,9;");
        t.due(1, "share", 0, 9);
        t.due(8, "share", 1, 9);
        t.due(1, "share", 0, 10);
        t.due(9, "share", 1, 10);
        t.due(100, "share", 0, 999);
        t.due(899, "share", 1, 999);

        edges.terms("what is over 1 each to the first ones that have letters: how many a PAPER gets");
        t = edges.driver("c0,1;p0,0,5;s9,0,1;s9,0,1;p0,1,5;s9,0,1;");
        t.x.noons(2);
        due = new int[][] {of(0, 0, 0, 0, 0, 0), of(1, 0, 1, 0, 0, 0), of(2, 0, 1, 1, 0, 0), of(3, 0, 1, 1, 0, 1),
            of(5, 0, 2, 2, 0, 1)};
        for (int[] d : due) for (int p = 0; p < 5; p++) t.due(d[p + 1], "share", p, d[0]);

        edges.terms("(0, if none has).");
        t.x.noons(3);
        for (int p = 0; p < 5; p++) for (int n : of(0, 1, 999)) t.due(0, "share", p, n);
        t.due(BAD, "share", 0, 1000);
    }

    private static void turns() {
        edges.terms("TURNS of two, n in all (0 to 4), m NOONS (1 to 20):");
        String text = "c0,1;p0,9,7;s0,0,9;s0,1,9;s0,2,1;p9,9,3;";
        Driver t = edges.driver(text);
        for (int n = 0; n <= 4; n++) {
            t.due(4, "byTurns", n, 1);
            t.due(4, "byTurns", n, 19);
            t.due(-3, "byTurns", n, 20);
        }
        edges.ends(text, 0, 0, 4, "byTurns", 0, 1);
        edges.ends(text, 1, 1, 20, "byTurns", 0, 1);
        t = edges.driver("c0,1;p0,0,4;p1,0,5;");
        int[] comes = {-5, 4, -5, 4, -5};
        for (int n = 0; n <= 4; n++) t.due(comes[n], "byTurns", n, 1);

        edges.terms("the debtor moves PAPER 0 one PLACE down, or up (not beyond 0, 9), or does nothing,");
        for (String edge : new String[] {"c9,1;p0,0,4;p0,1,5;", "c0,1;p9,0,4;p9,1,5;"}) {
            for (int n = 0; n <= 4; n++) edges.driver(edge).due(-5, "byTurns", n, 1);
        }
        edges.driver("c9,1;p1,0,4;p0,1,5;").due(-5, "byTurns", 0, 1);
        edges.driver("c9,1;p1,0,4;p0,0,5;").due(4, "byTurns", 1, 1);
        edges.driver("c0,1;p8,0,4;p9,0,5;").due(4, "byTurns", 1, 1);
        edges.driver("c9,1;p4,0,4;p2,0,5;").due(-5, "byTurns", 1, 1);
        edges.driver("c0,1;p5,0,4;p7,0,5;").due(-5, "byTurns", 1, 1);

        edges.terms("then the creditor likewise the last PAPER, and so on, all now;");
        for (String edge : new String[] {"c9,1;p0,1,5;p0,0,4;", "c0,1;p9,1,5;p9,0,4;"}) {
            for (int n = 0; n <= 4; n++) edges.driver(edge).due(5, "byTurns", n, 1);
        }
        edges.driver("c0,1;p9,0,5;p7,0,4;").due(5, "byTurns", 2, 1);
        edges.driver("c9,1;p0,0,5;p2,0,4;").due(5, "byTurns", 2, 1);
        edges.driver("c0,1;p9,0,5;p8,0,4;").due(-4, "byTurns", 2, 1);
        edges.driver("c9,1;p0,0,5;p1,0,4;").due(-4, "byTurns", 2, 1);
        int[] comesThen = {4, 4, -3, -3, -3};
        for (int n = 0; n <= 4; n++) {
            edges.driver("c9,1;p0,0,4;p1,0,3;").due(comesThen[n], "byTurns", n, 1);
            edges.driver("c9,1;p0,0,4;l5,9,9;p1,0,3;").due(comesThen[n], "byTurns", n, 1);
        }

        edges.terms("then m NOONS: letters of PAPER 0 less letters of the last one;");
        for (int n = 0; n <= 4; n++) for (int m : of(1, 20)) edges.driver("c0,1;p5,0,4;").due(0, "byTurns", n, m);
        t = edges.driver("c0,1;p0,0,9;s9,9,9;l9,9,9;");
        t.due(-9, "byTurns", 0, 1);
        t.due(-9, "byTurns", 4, 20);
        t.x.hide(0);
        t.x.hide(2);
        t.due(0, "byTurns", 4, 20);

        edges.terms("the debtor wants it great, the creditor little: what comes of it.");
        t = edges.driver("c0,1;p5,0,9;p5,0,9;");
        // each flees one place above the other, who follows: of two that are as near and as long the first is bitten
        int[] wanted = {-9, 9, -9, 9, -9};
        for (int n = 0; n <= 4; n++) t.due(wanted[n], "byTurns", n, 1);
        t = edges.driver("c0,1;p5,0,8;p5,0,9;");
        for (int n = 0; n <= 4; n++) t.due(8, "byTurns", n, 1);
    }

    public static void main(String[] args) {
        nothingChanges();
        ahead();
        bitten();
        left();
        when();
        over();
        stand();
        decoy();
        hide();
        sets();
        share();
        turns();
        edges.end();
    }
}
