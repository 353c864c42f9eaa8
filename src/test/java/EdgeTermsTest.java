/** The Terms' first part (refusals, rows, texts, faults): each sentence with a boundary case has a test of its own. */
public final class EdgeTermsTest {
    private static final long BAD = Driver.BAD, STATE = Driver.STATE, FULL = Driver.FULL;
    private static final long NULL = Driver.NULL, PLACE = Driver.PLACE, KIND = Driver.KIND, SIZE = Driver.SIZE,
        STORE = Driver.STORE;
    private static final int MIN = Driver.MIN, MAX = Driver.MAX;
    private static final String ONE = "c0,1;p0,0,4;";
    private static final String SIX = "c0,0;p0,0,1;l0,0,1;b0,0,1;d0,0,1;s0,0,1;p0,0,1;";
    private static final String LONGEST = "c09,02;p09,09,09;l09,09,09;b09,09,09;d09,09,09;s09,09,09;p09,09,09;";

    private static final Edges edges = new Edges();

    private EdgeTermsTest() {
    }

    // ---- what holds for all calls

    private static void theLastCall() {
        edges.sentence("What it is", "An object is used for at most 512 calls after it has been made");
        Driver t = edges.driver("c0,1;s0,0,9;");
        for (int call = 14; call <= 512; call++) t.due(call % 2 == 0 ? 1 : 0, "hide", 0);
        t = edges.driver("c0,1;s0,0,9;");
        for (int call = 14; call <= 511; call++) t.due(call < 23 ? 1 : 0, "noons", 1);
        t.due(498, "count", 2);
    }

    private static void fromNought() {
        edges.terms("Numbers go from 0 on.");
        Driver t = edges.driver("c0,1;p0,0,4;s9,9,9;");
        t.due(1, "kind", 0);
        t.due(5, "kind", 1);
        t.due(BAD, "kind", 2);
        t.due(0, "stand", 6);
        t.due(4, "noons", 1);
        t.due(1, "stand", 4);
        t.due(1, "row", 0, 0, 1);
        t.due(7, "set", 0, 0, 7);
        t.due(PLACE, "set", 0, 1, 7);
    }

    private static void cut() {
        edges.terms("All that is divided is cut towards 0");
        Driver t = edges.driver("c0,1;s9,0,2;s9,0,1;");
        t.due(2, "share", 0, 2);
        t.due(0, "share", 1, 2);
    }

    private static void fractions() {
        edges.terms("but fractions, told as two numbers in lowest terms (0 is 0 by 1).");
        Driver t = edges.driver(ONE);
        int[][] due = {{0, 1}, {1, 10}, {1, 5}, {3, 10}, {2, 5}, {1, 2}, {3, 5}, {7, 10}, {4, 5}, {9, 10}, {1, 1}};
        for (int p = 0; p <= 10; p++) for (int what = 0; what < 2; what++) t.due(due[p][what], "rain", 0, 1, p, what);
        t.due(1, "rain", 0, 0, 5, 0);
        t.due(1, "rain", 0, 0, 5, 1);
    }

    private static void bits() {
        edges.terms("Sets are bits.");
        Driver t = edges.driver(SIX);
        t.due(0, "stand", 5);
        t.x.hide(5);
        t.due(32, "stand", 5);
        t.x.hide(0);
        t.due(33, "stand", 5);
        for (int p = 1; p < 5; p++) t.x.hide(p);
        t.due(63, "stand", 5);
    }

    private static void badFirst() {
        edges.terms("Refusals are answers, the first of these that fits, but as told: BAD");
        Driver t = edges.driver();
        t.due(BAD, "image", 2);
        t.due(BAD, "restore", 2);
        for (int i = 0; i < 90; i++) t.x.feed('c');
        t.due(BAD, "feed", 256);
        t.due(FULL, "feed", 0);
        t = edges.driver("c1,0;s1,0,7;");
        for (int i = 0; i < 42; i++) t.x.noons(i < 41 ? 24 : 15);
        t.due(BAD, "noons", 25);
        t.due(BAD, "noons", 0);
        t.due(FULL, "noons", 1);
        t.due(BAD, "move", 1, 1);
        t.due(BAD, "row", 8, 0, -1);
        t.due(BAD, "row", 0, 3, -1);
        t.due(BAD, "copy", 8, -1, 7, -1, -1);
        t.due(BAD, "copy", 7, -1, 8, -1, -1);
        t.due(BAD, "who", 0, 0, 7, -1, 13);
        t.due(BAD, "as", 0, 6);

        edges.terms("(a number is not as told; there is no such thing)");
        t = edges.driver(ONE);
        t.due(BAD, "feed", 256);
        t.due(BAD, "paper", 1, 0);
        t.due(BAD, "paper", 0, 5);
        t.due(BAD, "drop", 8);
    }

    private static void findings() {
        edges.terms("then FINDINGS, of several the first in time");
        Driver t = edges.driver(ONE);
        t.x.row(0, 0, 2);
        t.x.row(1, 1, 2);
        t.due(NULL, "set", 7, -1, 0);
        t.due(NULL, "who", 0, 0, 7, -1, 1);
        t.due(NULL, "copy", 0, -1, 7, 3, -1);
        t.due(NULL, "copy", 7, -1, 1, 3, -1);
        t.due(STORE, "copy", 0, -1, 1, 3, -1);

        edges.terms("-1000010 less 1 NULL (a ROW that is missing), 2 PLACE (no such place of a ROW), 3 KIND (a PAPER "
            + "that is not that), 4 SIZE (fewer than none), 5 STORE (ROWS of two LANES).");
        t.due(-1000011, "drop", 7);
        t.due(1, "status");
        t.due(-1000012, "set", 0, 2, 0);
        t.due(2, "status");
        t.due(-1000013, "as", 0, 2);
        t.due(3, "status");
        t.due(-1000014, "row", 0, 0, -1);
        t.due(4, "status");
        t.due(-1000015, "copy", 0, 0, 1, 0, 1);
        t.due(5, "status");
    }

    // ---- rows

    private static void rows() {
        edges.terms("ROWS 0 .. 7 are missing (at first)");
        Driver t = edges.driver();
        for (int row = 0; row < 8; row++) t.due(NULL, "drop", row);
        t.due(0, "count", 0);
        for (int row = 0; row < 8; row++) t.due(1, "row", row, 0, 1);
        t.due(8, "count", 0);
        for (int row : Driver.of(-1, 8, MIN, MAX)) t.due(BAD, "row", row, 0, 1);
        for (int row : Driver.of(-1, 8, MIN, MAX)) t.due(BAD, "drop", row);

        edges.terms("have a LANE (0 bytes, 1 shorts, 2 ints)");
        for (int lane = 0; lane < 3; lane++) t.due(1, "row", lane, lane, 1);
        int[][] kept = {{127, 127, 127}, {128, -128, 128}, {255, -1, 255}, {256, 0, 256}, {-128, -128, -128},
            {-129, 127, -129}, {32767, -1, 32767}, {32768, 0, -32768}, {65535, -1, -1}, {65536, 0, 0},
            {-32768, 0, -32768}, {-32769, -1, 32767}, {MAX, -1, -1}, {MIN, 0, 0}};
        for (int[] v : kept) {
            t.due(v[1], "set", 0, 0, v[0]);
            t.due(v[2], "set", 1, 0, v[0]);
            t.due(v[0], "set", 2, 0, v[0]);
        }
        for (int lane : Driver.of(-1, 3, MIN, MAX)) t.due(BAD, "row", 0, lane, 1);
    }

    private static void items() {
        edges.terms("and 0 to 40 ITEMS, 0 at first.");
        Driver t = edges.driver();
        t.due(0, "row", 0, 0, 0);
        t.due(PLACE, "set", 0, 0, 1);
        t.due(0, "drop", 0);
        t.due(40, "row", 0, 0, 40);
        t.due(1, "set", 0, 39, 1);
        t.due(PLACE, "set", 0, 40, 1);
        t.due(BAD, "row", 0, 0, 41);
        t.due(SIZE, "row", 0, 0, -1);
        t.due(40, "drop", 0);
        // a Latin one of odd letters at 9 is bitten at every noon: kind 2 fits where, and only where, all items are 0
        t = edges.driver("c9,1;l9,0,9;");
        for (int lane = 0; lane < 3; lane++) {
            for (int again = 0; again < 2; again++) {
                t.due(40, "row", 0, lane, 40);
                for (int i = 0; i <= 28; i += 4) t.due(4, "who", 0, 0, 0, i, 12);
                for (int i = 0; i < 40; i += 13) t.x.set(0, i, 99);
                t.due(0, "who", 0, 0, 0, 28, 12);
            }
            t.x.drop(0);
        }
    }

    // ---- texts

    private static void tape() {
        edges.terms("THE TAPE has at most 90 bytes, that come one by one");
        Driver t = edges.driver();
        for (int i = 1; i <= 90; i++) t.due(i, "feed", i == 1 ? 0 : 255);
        t.due(FULL, "feed", 255);
        t.due(90, "count", 7);
        t.due(-1000100, "square");
        t.due(0, "count", 7);
        t.feed(LONGEST);
        t.due(67, "count", 7);
        t.due(6, "square");
        t.feed(LONGEST + "p09,09,09;p09,09,09;p09,09");
        t.due(90, "count", 7);
        t.due(FULL, "feed", ';');
        t.due(-1000100 - 67, "square");
        t.due(3, "fault");
    }

    private static void faultIs(String text, int place, int fault) {
        Driver t = edges.driver();
        edges.check.due("square() of " + text, t.tell(text), -1000100L - place);
        edges.check.due("fault() of " + text, t.x.fault(), fault);
    }

    private static void papersAre(String text, int papers) {
        edges.check.due("square() of " + text, edges.driver().tell(text), papers);
    }

    /** Of all bytes only these can stand behind a text (which then lacks the next token). */
    private static void onlyThese(String before, String these) {
        for (char c = 0; c < 256; c++) faultIs(before + c, before.length() + (these.indexOf(c) < 0 ? 0 : 1), 1);
    }

    /** Of all bytes only this sign can stand behind a number (a figure makes it a run of three). */
    private static void onlyTheSign(String before, char sign) {
        for (char c = 0; c < 256; c++) {
            boolean figure = c >= '0' && c <= '9';
            if (c != sign) faultIs(before + c, before.length() - (figure ? 2 : 0), 1);
        }
        papersAre(before + sign + "c00,01;p00,00,01;".substring(before.length() + 1), 1);
    }

    private static void tokens() {
        edges.terms("TOKENS: letters a to z (each by itself)");
        onlyThese("", "c");
        onlyThese("c0,1;", "plbds");
        faultIs("cc0,1;p0,0,1;", 1, 1);
        faultIs("c0,1;pl0,0,1;", 6, 1);

        edges.terms("NUMBERS (figures, 2 at most)");
        onlyThese("c", "0123456789");
        onlyThese("c0,1;p", "0123456789");
        papersAre("c09,01;p09,00,09;", 1);
        faultIs("c009,1;p0,0,1;", 1, 1);

        edges.terms("SIGNS , and ;");
        onlyTheSign("c00", ',');
        onlyTheSign("c00,01", ';');
        onlyTheSign("c00,01;p00", ',');
        onlyTheSign("c00,01;p00,00", ',');
        onlyTheSign("c00,01;p00,00,01", ';');

        edges.terms("nothing else.");
        for (int i = 0; i < ONE.length(); i++) {
            for (char c : new char[] {' ', '\n', 0, '.', ':', '+', '-', 'A', 'Z', 127, 128, 255}) {
                String text = ONE.substring(0, i) + c + ONE.substring(i);
                faultIs(text, i, 1);
            }
        }
        faultIs(ONE + ' ', ONE.length(), 1);
    }

    private static void grammar() {
        edges.terms("square: law paper { paper }.");
        faultIs("", 0, 1);
        faultIs("p0,0,1;", 0, 1);
        faultIs("c0,1;", 5, 1);
        faultIs("c0,1;c0,1;p0,0,1;", 5, 1);
        faultIs("c0,1;p0,0,1;c0,1;", 12, 1);
        faultIs(ONE + ";", 12, 1);
        papersAre(ONE, 1);

        edges.terms("PAPERS 0 .. 5, 6 at most");
        StringBuilder text = new StringBuilder("c0,1;");
        for (int papers = 1; papers <= 6; papers++) {
            text.append("p0,0,1;");
            Driver t = edges.driver(text.toString());
            t.due(papers, "count", 1);
            t.due(1, "kind", papers - 1);
            t.due(BAD, "kind", papers);
        }
        text.append("p0,0,1;");
        faultIs(text.toString(), 47, 3);

        edges.terms("SORT: p a plain one, l a Latin one, b a borrowed one, d a double one, s that of a street");
        for (char c = 'a'; c <= 'z'; c++) {
            int kind = ".plbds".indexOf(c);
            if (kind < 0) faultIs("c0,1;" + c + "0,0,1;", 5, 1);
            else edges.driver("c0,1;" + c + "0,0,1;").due(kind, "kind", 0);
        }
    }

    /** Every number of two figures at most, in place of a number: it is taken from least to most, told 3 or 03. */
    private static void numberTold(String before, String behind, int least, int most, String name, int... a) {
        for (int v = 0; v < 100; v++) {
            for (String told : new String[] {String.valueOf(v), v < 10 ? "0" + v : String.valueOf(v)}) {
                String text = before + told + behind;
                if (v < least || v > most) faultIs(text, before.length(), 2);
                else edges.driver(text).due(v, name, a);
            }
        }
        for (String told : new String[] {"000", "001", "009", "010", "100", "999", "0000", "1000"}) {
            faultIs(before + told + behind, before.length(), 1);
        }
    }

    private static void numbers() {
        edges.terms("law: c CLOCK , DRIFT ; (0 to 9: a PLACE;");
        numberTold("c", ",1;p0,0,1;", 0, 9, "stand", 1);

        edges.terms("0 to 2: 1 more than by how much it goes on behind a NOON: 0 one down, 1 not, 2 one up)");
        numberTold("c0,", ";p0,0,1;", 0, 2, "stand", 2);
        for (int drift = 0; drift <= 2; drift++) {
            Driver t = edges.driver("c5," + drift + ";p0,0,1;");
            t.x.noons(1);
            t.due(4 + drift, "stand", 1);
        }

        edges.terms("paper: SORT PLACE , LOW , LONG ;");
        numberTold("c0,1;p", ",0,1;", 0, 9, "paper", 0, 0);

        edges.terms("0 to 9; 0 to 9: how low it hangs;");
        numberTold("c0,1;p0,", ",1;", 0, 9, "paper", 0, 1);

        edges.terms("1 to 9: letters;");
        numberTold("c0,1;p0,0,", ";", 1, 9, "paper", 0, 2);
    }

    private static void inPlaceOfTheOneBefore() {
        edges.terms("A SQUARE that is read stands in place of the one before (none at first): NOON 0, REST 0, EATEN 0, no "
            + "PAPER is HIDDEN; no ACT can be undone.");
        Driver t = edges.driver();
        t.due(STATE, "stand", 0);
        t.due(0, "count", 1);
        t.tell("c0,2;p0,0,9;l9,0,9;b9,0,9;d9,0,9;s9,0,9;p9,0,9;");
        t.x.hide(0);
        t.x.hide(5);
        t.x.hide(0);
        t.due(9, "noons", 1);
        t.due(4, "stand", 3);
        t.due(4, "count", 6);
        edges.check.due("one paper in place of six", t.tell("c5,1;s5,1,3;"), 1);
        for (int what : Driver.of(2, 3, 5, 6)) t.due(0, "count", what);
        for (int what : Driver.of(3, 4, 5)) t.due(0, "stand", what);
        t.due(1, "stand", 0);
        t.due(5, "stand", 1);
        t.due(1, "stand", 2);
        t.due(5, "kind", 0);
        for (int p = 1; p < 6; p++) t.due(BAD, "kind", p);
        t.due(STATE, "undo");
        edges.check.due("six papers in place of one", t.tell(SIX), 6);
        for (int p = 0; p < 6; p++) t.due(1, "paper", p, 2);
        t.due(STATE, "undo");
    }

    // ---- faults

    private static void faults() {
        edges.terms("FAULTS, the first TOKEN that has one (its first byte)");
        faultIs("c10,3;x10,10,10;", 1, 2);
        faultIs("c9,3;x10,10,10;", 3, 2);
        faultIs("c9,2;x10,10,10;", 5, 1);
        faultIs("c9,2;p10,10,10;", 6, 2);
        faultIs("c9,2;p9,10,10;", 8, 2);
        faultIs("c9,2;p9,9,10;", 10, 2);
        faultIs("c9,2;p9,9,99!", 10, 2);

        edges.terms("of one TOKEN the least");
        faultIs("c100,1;p0,0,1;", 1, 1);
        faultIs("c0,1;99,0,1;", 5, 1);
        faultIs("c0,1;p0,0,1;99", 12, 1);
        faultIs(SIX + "x", 47, 1);
        faultIs(SIX + "99", 47, 1);
        faultIs(SIX + "p99,", 47, 3);

        edges.terms("1 it cannot stand there, or is none");
        faultIs("c;", 1, 1);
        faultIs("c0;", 2, 1);
        faultIs("c0,1,", 4, 1);
        faultIs("c0,1;p0,0,1,", 11, 1);
        faultIs("c0,1;P0,0,1;", 5, 1);
        faultIs("c0,1;p0,0,#", 10, 1);

        edges.terms("(a run of three figures, at its first;");
        faultIs("c000,1;p0,0,1;", 1, 1);
        faultIs("c0,1;p0,0,001;", 10, 1);
        faultIs("c0,1;p0,0,1;123", 12, 1);
        faultIs("c123456789", 1, 1);
        faultIs("c12", 1, 2);

        edges.terms("the end: how many bytes there are)");
        String two = ONE + "s09,9,09;";
        for (int n = 0; n <= two.length(); n++) {
            if (n == ONE.length()) papersAre(two.substring(0, n), 1);
            else if (n == two.length()) papersAre(two, 2);
            else if (n != two.length() - 2) faultIs(two.substring(0, n), n, 1);
        }
        faultIs("c0,1;p0,0,0", 10, 2);

        edges.terms("2 a NUMBER that is not as told;");
        faultIs("c0,1;p0,0,00;", 10, 2);
        faultIs("c0,1;p0,0,0;", 10, 2);
        faultIs("c0,03;p0,0,1;", 3, 2);
        faultIs("c99,1;p0,0,1;", 1, 2);

        edges.terms("3 a paper more than there is room for (its letter).");
        for (char c = 0; c < 256; c++) faultIs(SIX + c, 47, "plbds".indexOf(c) < 0 ? 1 : 3);
        faultIs(SIX + SIX.substring(5, 47), 47, 3);
        faultIs(LONGEST + "s0,0,1;", 67, 3);
    }

    public static void main(String[] args) {
        theLastCall();
        fromNought();
        cut();
        fractions();
        bits();
        badFirst();
        findings();
        rows();
        items();
        tape();
        tokens();
        grammar();
        numbers();
        inPlaceOfTheOneBefore();
        faults();
        edges.end();
    }
}
