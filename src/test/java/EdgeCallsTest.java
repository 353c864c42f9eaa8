import java.util.Arrays;

/** Promises 1 to 16 and 31 to 38: each sentence that names a boundary case has a test of its own. */
public final class EdgeCallsTest {
    private static final long NONE = Driver.NONE, BAD = Driver.BAD, STATE = Driver.STATE, FULL = Driver.FULL;
    private static final long NULL = Driver.NULL, PLACE = Driver.PLACE, KIND = Driver.KIND, SIZE = Driver.SIZE,
        STORE = Driver.STORE;
    private static final int MIN = Driver.MIN, MAX = Driver.MAX;
    private static final String MIXED = "c4,2;p3,1,6;l5,0,7;b4,2,5;d6,1,9;s4,4,8;p9,9,2;";
    private static final String SIX = "c0,0;p0,0,1;l0,0,1;b0,0,1;d0,0,1;s0,0,1;p0,0,1;";
    /** Which is bitten at every noon: a row fits where all its items are 0. */
    private static final String FOREVER = "c9,1;l9,0,9;";

    private static final Edges edges = new Edges();

    private EdgeCallsTest() {
    }

    private static int[] of(int... a) {
        return a;
    }

    private static void newObject() {
        edges.promise(1, "`NameNoon()`: No SQUARE.");
        Driver t = edges.driver();
        for (int what = 0; what < 8; what++) t.due(0, "count", what);
        for (int p = -1; p <= 6; p++) t.due(BAD, "kind", p);
        t.due(STATE, "stand", 0);
        t.due(STATE, "over");
        t.due(STATE, "undo");
        t.due(STATE, "image", 0);
        t.due(STATE, "restore", 0);
        t.due(STATE, "restore", 1);
        t.due(NONE, "trace", 0);
        t.due(0, "fault");
        t.due(0, "status");
    }

    // ---- rows

    private static void row() {
        edges.promise(2, "A ROW of a LANE with n ITEMS, in place of what is there: n.");
        Driver t = edges.driver(FOREVER);
        for (int n : of(0, 1, 39, 40)) {
            t.due(n, "row", 0, 0, n);
            t.due(n, "drop", 0);
        }
        t.due(40, "row", 0, 2, 40);
        t.due(300, "set", 0, 0, 300);
        t.due(1, "row", 0, 0, 1);
        t.due(62, "who", 0, 0, 0, 0, 1);
        t.due(PLACE, "set", 0, 1, 0);
        t.due(44, "set", 0, 0, 300);
        t.due(1, "count", 0);

        edges.promise(2, "BAD: ROW, LANE, n above 40; SIZE.");
        edges.ends("", 0, 0, 7, "row", 0, 0, 1);
        edges.ends("", 1, 0, 2, "row", 0, 0, 1);
        t = edges.driver();
        t.due(BAD, "row", 0, 0, 41);
        t.due(BAD, "row", 0, 0, MAX);
        t.due(SIZE, "row", 0, 0, -1);
        t.due(SIZE, "row", 0, 0, MIN);
        t.due(BAD, "row", 8, 0, -1);
        t.due(BAD, "row", 0, 3, -1);
        t.due(0, "count", 0);
    }

    private static void set() {
        edges.promise(3, "ITEM i becomes v, its lowest bits, as many as the LANE has: what it is then.");
        Driver t = edges.driver(FOREVER);
        for (int lane = 0; lane < 3; lane++) t.x.row(lane, lane, 2);
        int[][] kept = {of(-1, -1, -1), of(256, 0, 256), of(65536, 0, 0), of(128, -128, 128), of(32768, 0, -32768),
            of(MAX, -1, -1), of(MIN, 0, 0)};
        for (int[] v : kept) {
            t.due(v[1], "set", 0, 0, v[0]);
            t.due(v[2], "set", 1, 0, v[0]);
            t.due(v[0], "set", 2, 0, v[0]);
        }
        // 256 is 0 among bytes, and not among shorts
        for (int lane = 0; lane < 3; lane++) {
            t.x.set(lane, 0, 256);
            t.due(lane == 0 ? 62 : 0, "who", 0, 0, lane, 0, 1);
            t.due(62, "who", 0, 0, lane, 1, 1);
            t.x.set(lane, 0, 65536);
            t.due(lane < 2 ? 62 : 0, "who", 0, 0, lane, 0, 1);
        }

        edges.promise(3, "BAD: ROW; NULL; PLACE.");
        t = edges.driver();
        t.x.row(0, 0, 40);
        t.x.row(1, 0, 0);
        t.due(1, "set", 0, 0, 1);
        t.due(1, "set", 0, 39, 1);
        for (int row : of(-1, 8, MIN, MAX)) t.due(BAD, "set", row, 0, 1);
        for (int i : of(-1, 40, MIN, MAX)) t.due(PLACE, "set", 0, i, 1);
        for (int i : of(-1, 0, 1)) t.due(PLACE, "set", 1, i, 1);
        for (int i : of(-1, 0, 1)) t.due(NULL, "set", 2, i, 1);
    }

    /** Where the row's first items are 0: as many windows of one as there are items. */
    private static String noughts(Driver t, int row, int n) {
        StringBuilder s = new StringBuilder();
        for (int i = 0; i < n; i++) s.append(t.x.who(0, 0, row, i, 1) == 0 ? 'x' : '0');
        return s.toString();
    }

    private static void copy() {
        edges.promise(4, "n ITEMS of a from i on come to b from j on, as they were ahead: n.");
        int[][] copies = {of(0, 1, 4), of(1, 0, 4), of(0, 4, 1), of(4, 0, 1), of(0, 0, 5), of(0, 0, 0), of(5, 5, 0), of(0, 2, 3),
            of(2, 0, 3)};
        String[] due = {"xx000", "000xx", "x000x", "x000x", "x000x", "x000x", "x000x", "x0x00", "00x0x"};
        for (int i = 0; i < copies.length; i++) {
            Driver t = edges.driver(FOREVER);
            t.line(0, 1, 0, 0, 0, 1);
            t.due(copies[i][2], "copy", 0, copies[i][0], 0, copies[i][1], copies[i][2]);
            edges.check.same("items behind copy" + Arrays.toString(copies[i]), noughts(t, 0, 5), due[i]);
        }
        Driver t = edges.driver(FOREVER);
        t.x.row(0, 1, 40);
        t.x.row(1, 1, 40);
        t.x.set(0, 39, 7);
        t.due(40, "copy", 0, 0, 1, 0, 40);
        edges.check.same("forty items", noughts(t, 1, 40), "0".repeat(39) + "x");

        edges.promise(4, "BAD: ROWS; NULL; STORE; PLACE (i, j, n below 0, or beyond an end).");
        t = edges.driver(FOREVER);
        t.line(0, 1, 0, 0, 0, 1);
        t.line(1, 0, 0, 0);
        t.x.row(2, 1, 5);
        t.x.row(3, 0, 0);
        for (int row : of(-1, 8, MIN, MAX)) {
            t.due(BAD, "copy", row, 0, 0, 0, 1);
            t.due(BAD, "copy", 0, 0, row, 0, 1);
            t.due(BAD, "copy", 7, 0, row, 0, 1);
        }
        t.due(NULL, "copy", 7, -1, 2, 9, 9);
        t.due(NULL, "copy", 2, -1, 7, 9, 9);
        t.due(NULL, "copy", 7, 0, 7, 0, 0);
        t.due(STORE, "copy", 2, -1, 0, 9, 9);
        t.due(STORE, "copy", 0, 0, 2, 0, 0);
        for (int[] a : new int[][] {of(-1, 0, 1), of(0, -1, 1), of(0, 0, -1), of(MIN, 0, 0), of(0, MIN, 0), of(0, 0, MIN),
            of(5, 0, 1), of(0, 3, 1), of(0, 0, 4), of(3, 0, 3), of(0, 1, 3), of(6, 0, 0), of(0, 4, 0), of(MAX, 0, 1),
            of(0, MAX, 1), of(0, 0, MAX), of(MAX, 0, MAX), of(1, 1, MAX), of(-1, 0, 0), of(-1, -1, 2)}) {
            t.due(PLACE, "copy", 0, a[0], 1, a[1], a[2]);
        }
        edges.check.same("the rows stay", noughts(t, 0, 5) + noughts(t, 1, 3), "x000x000");
        t.due(0, "copy", 0, 5, 1, 3, 0);
        t.due(0, "copy", 3, 0, 0, 0, 0);
        t.due(PLACE, "copy", 3, 0, 0, 0, 1);
        t.due(3, "copy", 0, 2, 1, 0, 3);
    }

    private static void drop() {
        edges.promise(5, "A ROW is missing from now on: how many ITEMS it had.");
        Driver t = edges.driver();
        for (int n : of(0, 1, 40)) {
            t.x.row(7, 0, n);
            t.due(1, "count", 0);
            t.due(n, "drop", 7);
            t.due(0, "count", 0);
            t.due(NULL, "set", 7, 0, 0);
        }

        edges.promise(5, "BAD; NULL.");
        for (int row : of(-1, 8, MIN, MAX)) t.due(BAD, "drop", row);
        for (int row = 0; row < 8; row++) t.due(NULL, "drop", row);
    }

    // ---- what is told

    private static void feed() {
        edges.promise(6, "A byte (0 to 255) comes behind the tape: how many it has.");
        Driver t = edges.driver();
        for (int i = 1; i <= 90; i++) t.due(i, "feed", i % 2 == 0 ? 0 : 255);

        edges.promise(6, "BAD; FULL.");
        for (int v : of(-1, 256, MIN, MAX)) t.due(BAD, "feed", v);
        for (int v : of(0, 'c', 255)) t.due(FULL, "feed", v);
        t.due(90, "count", 7);
        t.x.square();
        for (int v : of(-1, 256, MIN, MAX)) t.due(BAD, "feed", v);
        t.due(0, "count", 7);
        t.due(1, "feed", 0);
        t.due(2, "feed", 255);
    }

    private static void square() {
        edges.promise(7, "The tape, empty then, is read: how many PAPERS there are.");
        Driver t = edges.driver();
        edges.check.due("square()", t.tell("c0,1;p0,0,1;"), 1);
        t.due(0, "count", 7);
        edges.check.due("square()", t.tell(SIX), 6);
        t.due(0, "count", 7);
        t.due(-1000100, "square");

        edges.promise(7, "-1000100 less the place of a FAULT: all stays.");
        t = edges.driver(MIXED);
        t.x.hide(4);
        t.x.noons(3);
        t.x.image(1);
        t.x.ask(1, 0);
        String before = t.look().replaceAll(" \\d$", "");
        for (String text : new String[] {"", "x", "c9,9;", "c0,0;p0,0,0;", SIX + "p", "c0,0;l9,9,1"}) {
            t.tell(text);
            edges.check.same("all behind the fault of " + text, t.look().replaceAll(" \\d$", ""), before);
        }
        t.due(4, "count", 6);
        t.due(3, "undo");
        t.due(1, "restore", 1);
    }

    private static void fault() {
        edges.promise(8, "The number of the latest FAULT; 0 before one.");
        Driver t = edges.driver();
        t.due(0, "fault");
        t.tell(SIX);
        t.due(0, "fault");
        t.tell("c10");
        t.due(2, "fault");
        t.tell(SIX + "p");
        t.due(3, "fault");
        t.tell(SIX);
        t.due(3, "fault");
        t.tell("");
        t.due(1, "fault");
    }

    private static void undo() {
        edges.promise(9, "The latest ACT is undone: how many can be undone yet. STATE: none.");
        Driver t = edges.driver();
        t.due(STATE, "undo");
        t.tell(MIXED);
        t.due(STATE, "undo");
        t.x.noons(24);
        t.due(24, "count", 6);
        for (int left = 23; left >= 0; left--) {
            t.due(left, "undo");
            t.due(left, "count", 2);
        }
        t.due(STATE, "undo");
        t.x.hide(0);
        t.due(0, "undo");
        t.due(0, "stand", 5);
        t.due(STATE, "undo");
    }

    // ---- what is done

    private static void noons() {
        edges.promise(10, "n NOONS (1 to 24), an ACT each: letters that were lost in them.");
        edges.ends(MIXED, 0, 1, 24, "noons", 1);
        Driver t = edges.driver("c0,1;s0,0,9;s0,1,9;s0,2,9;");
        t.due(1, "noons", 1);
        t.due(1, "count", 6);
        t.due(24, "noons", 24);
        t.due(25, "count", 2);
        t.due(24, "count", 6);
        t.due(2, "noons", 24);
        t.due(0, "noons", 24);
        t.due(27, "count", 3);

        edges.promise(10, "BAD; STATE: no SQUARE (ahead of BAD); FULL: NOON would be above 999.");
        for (int n : of(0, 1, 24, 25, -1, MIN, MAX)) edges.driver().changesNothing(STATE, "noons", n);
        t = edges.driver("c0,2;s0,0,1;");
        for (int i = 0; i < 41; i++) t.x.noons(24);
        t.x.noons(14);
        t.due(998, "count", 2);
        t.changesNothing(FULL, "noons", 2);
        t.changesNothing(FULL, "noons", 24);
        t.changesNothing(BAD, "noons", 25);
        t.changesNothing(BAD, "noons", 0);
        t.due(0, "noons", 1);
        t.due(999, "count", 2);
        t.changesNothing(FULL, "noons", 1);
        t.due(9, "left", 0, 2);
        t.due(9, "left", 60, 2);
        t.due(23, "undo");
        t.changesNothing(FULL, "noons", 2);
        t.due(0, "noons", 1);
    }

    private static void move() {
        edges.promise(11, "Moved to a PLACE (0 to 9): where it was.");
        Driver t = edges.driver("c0,1;p5,0,1;");
        int[] places = {0, 9, 0, 4};
        int was = 5;
        for (int place : places) {
            t.due(was, "move", 0, place);
            t.due(place, "paper", 0, 0);
            was = place;
        }

        edges.promise(11, "BAD; STATE: it is there.");
        edges.ends(MIXED, 1, 0, 9, "move", 0, 0);
        edges.endsOfPapers(0, "move", 0, 9);
        for (int place = 0; place <= 9; place++) {
            t = edges.driver("c0,1;p" + place + ",0,1;");
            t.changesNothing(STATE, "move", 0, place);
            t.due(STATE, "undo");
        }
    }

    private static void write() {
        edges.promise(12, "Written anew, LONG (1 to 9): how long it was. BAD.");
        Driver t = edges.driver("c0,1;p5,0,1;");
        t.due(1, "write", 0, 1);
        t.due(1, "write", 0, 9);
        t.due(9, "write", 0, 9);
        t.due(9, "write", 0, 1);
        t.due(4, "count", 6);
        t.due(1, "noons", 1);
        t.due(0, "write", 0, 9);
        t.due(0, "stand", 4);
        edges.ends(MIXED, 1, 1, 9, "write", 0, 1);
        edges.endsOfPapers(0, "write", 0, 1);
    }

    private static void hide() {
        edges.promise(13, "HIDDEN, or shown again: 1 it is HIDDEN then, 0. BAD.");
        Driver t = edges.driver(SIX);
        for (int p = 0; p < 6; p++) {
            t.due(1, "hide", p);
            t.due(1, "paper", p, 4);
        }
        for (int p = 5; p >= 0; p--) {
            t.due(0, "hide", p);
            t.due(0, "paper", p, 4);
        }
        t.due(12, "count", 6);
        edges.endsOfPapers(0, "hide", 0);
        for (int p : of(31, 32, 33)) t.due(BAD, "hide", p);
    }

    private static void clock() {
        edges.promise(14, "CLOCK is turned to a PLACE (0 to 9): where it was.");
        Driver t = edges.driver("c5,1;p5,0,1;");
        int was = 5;
        for (int place : of(0, 9, 0, 4)) {
            t.due(was, "clock", place);
            t.due(place, "stand", 1);
            was = place;
        }

        edges.promise(14, "BAD; STATE: no SQUARE (ahead of BAD), it is there.");
        edges.ends(MIXED, 0, 0, 9, "clock", 0);
        for (int place : of(-1, 0, 9, 10, MIN, MAX)) edges.driver().changesNothing(STATE, "clock", place);
        for (int place = 0; place <= 9; place++) {
            t = edges.driver("c" + place + ",1;p0,0,1;");
            t.changesNothing(STATE, "clock", place);
            t.due(STATE, "undo");
        }
    }

    private static void paper() {
        edges.promise(15, "Of a PAPER: 0 PLACE, 1 LOW, 2 LONG, 3 NEAR, 4 whether it is HIDDEN (1, 0). BAD.");
        for (String text : new String[] {"c0,1;p9,9,9;", "c9,1;p0,9,9;", "c0,1;p0,0,1;"}) {
            Driver t = edges.driver(text);
            int place = text.charAt(6) - '0', low = text.charAt(8) - '0';
            t.due(place, "paper", 0, 0);
            t.due(low, "paper", 0, 1);
            t.due(low == 0 ? 1 : 9, "paper", 0, 2);
            t.due(low == 0 ? 0 : 18, "paper", 0, 3);
            t.due(0, "paper", 0, 4);
            t.x.hide(0);
            t.due(1, "paper", 0, 4);
        }
        edges.ends(MIXED, 1, 0, 4, "paper", 0, 0);
        edges.endsOfPapers(0, "paper", 0, 0);
    }

    private static void stand() {
        edges.promise(16, "0 PAPERS, 1 CLOCK, 2 DRIFT (as told), 3 REST,");
        for (int[] d : new int[][] {of(1, 0, 0), of(1, 9, 2), of(6, 0, 2), of(6, 9, 0), of(6, 5, 1)}) {
            Driver t = edges.driver("c" + d[1] + "," + d[2] + ";" + "p0,0,9;".repeat(d[0]));
            for (int what = 0; what < 3; what++) t.due(d[what], "stand", what);
            t.due(0, "stand", 3);
            t.x.noons(1);
            t.due(d[2], "stand", 2);
            t.due(4, "stand", 3);
        }

        edges.promise(16, "4 who is NAMELESS (bits), 5 who is HIDDEN (bits), 6 which PAPER would be bitten now (NONE).");
        Driver t = edges.driver("c0,1;p0,0,6;p0,1,1;");
        for (int[] due : new int[][] {of(0, 0, 0), of(1, 0, (int) NONE), of(1, 0, 1), of(3, 0, (int) NONE)}) {
            for (int what = 4; what <= 6; what++) t.due(due[what - 4], "stand", what);
            t.x.noons(1);
        }
        t = edges.driver("c0,1;p0,0,6;p0,1,1;");
        t.x.hide(0);
        t.due(1, "stand", 5);
        t.due(1, "stand", 6);
        t.x.hide(1);
        t.due(3, "stand", 5);
        t.due(NONE, "stand", 6);
        t.due(0, "stand", 4);

        edges.promise(16, "BAD; STATE: no SQUARE (ahead of BAD).");
        edges.ends(MIXED, 0, 0, 6, "stand", 0);
        for (int what : of(-1, 0, 6, 7, MIN, MAX)) edges.driver().changesNothing(STATE, "stand", what);
    }

    // ---- images

    private static void images() {
        edges.promise(31, "An IMAGE (0, 1) is kept of the SQUARE: 1. BAD; STATE: no SQUARE.");
        Driver t = edges.driver();
        for (int k : of(-1, 2, MIN, MAX)) t.changesNothing(BAD, "image", k);
        for (int k : of(0, 1)) t.changesNothing(STATE, "image", k);
        for (int k : of(0, 1)) t.changesNothing(STATE, "restore", k);
        t.tell(MIXED);
        for (int k : of(-1, 2, MIN, MAX)) t.changesNothing(BAD, "image", k);
        for (int k : of(0, 1)) t.changesNothing(1, "image", k);
        t.x.noons(1);
        t.changesNothing(1, "image", 1);
        t.due(1, "count", 6);
        t.x.noons(1);
        t.due(1, "restore", 1);
        t.due(1, "count", 2);
        t.due(1, "restore", 0);
        t.due(0, "count", 2);

        edges.promise(32, "The SQUARE is as an IMAGE kept it (no ACT can be undone then): 1.");
        t = edges.driver(MIXED);
        t.x.hide(5);
        t.x.noons(7);
        String seen = Driver.uncounted(t.look());
        t.x.image(0);
        t.tell("c0,1;p0,0,1;");
        t.x.noons(24);
        t.due(1, "restore", 0);
        edges.check.same("all that the image kept", Driver.uncounted(t.look()), seen);
        t.due(0, "count", 6);
        t.due(STATE, "undo");
        t.x.noons(1);
        t.due(0, "undo");
        edges.check.same("all that the image kept", Driver.uncounted(t.look()), seen);
        t.due(1, "restore", 0);
        edges.check.same("all that the image kept", Driver.uncounted(t.look()), seen);

        edges.promise(32, "BAD; STATE: none was kept.");
        for (int k : of(-1, 2, MIN, MAX)) t.changesNothing(BAD, "restore", k);
        t.changesNothing(STATE, "restore", 1);
    }

    // ---- asked

    private static void asked() {
        edges.promise(33, "The KIND of a PAPER, as told (1 to 5). BAD.");
        Driver t = edges.driver("c0,1;p0,0,1;l0,0,1;b0,0,1;d0,0,1;s0,0,1;p0,0,1;");
        for (int p = 0; p < 6; p++) t.due(p % 5 + 1, "kind", p);
        t.x.noons(24);
        for (int p = 0; p < 6; p++) t.due(p % 5 + 1, "kind", p);
        edges.endsOfPapers(0, "kind", 0);

        edges.promise(34, "A PAPER is taken as one of a KIND (0 .. 5): its number. BAD; KIND: it is no such one.");
        t.due(5, "as", 5, 0);
        t.due(5, "as", 5, 1);
        t.due(KIND, "as", 5, 2);
        t.due(KIND, "as", 5, 5);
        t.due(0, "as", 0, 0);
        t.due(KIND, "as", 0, 5);
        edges.ends("c0,1;s0,0,1;", 1, 0, 5, "as", 0, 0);
        edges.endsOfPapers(0, "as", 0, 0);

        edges.promise(35, "An ASK (0, 1) of a PAPER. BAD. THE TRACE is empty ahead of it.");
        edges.ends(MIXED, 1, 0, 1, "ask", 0, 0);
        edges.endsOfPapers(0, "ask", 0, 0);
        t = edges.driver(MIXED);
        t.x.ask(1, 0);
        t.due(20, "trace", 5);
        t.changesNothing(BAD, "ask", 6, 0);
        t.changesNothing(BAD, "ask", 0, 2);
        t.x.ask(3, 0);
        t.due(10, "trace", 1);
        for (int i = 2; i < 16; i++) t.due(NONE, "trace", i);

        edges.promise(36, "Number i of THE TRACE; NONE.");
        t = edges.driver(MIXED);
        for (int i : of(-1, 0, 15, 16, MIN, MAX)) t.due(NONE, "trace", i);
        t.x.ask(0, 1);
        for (int[] d : new int[][] {of(0, 21), of(1, 20), of(2, (int) NONE), of(-1, (int) NONE), of(15, (int) NONE),
            of(16, (int) NONE), of(MIN, (int) NONE), of(MAX, (int) NONE)}) {
            t.due(d[1], "trace", d[0]);
        }
    }

    private static void counted() {
        edges.promise(37, "How many: 0 ROWS, 1 PAPERS, 2 NOON, 3 EATEN, 4 letters of all together, 5 how many are NAMELESS, 6 ACTS "
            + "that can be undone, 7 bytes on the tape. BAD.");
        Driver t = edges.driver();
        for (int what = 0; what <= 7; what++) t.due(0, "count", what);
        for (int what : of(-1, 8, MIN, MAX)) t.due(BAD, "count", what);
        t.tell("c0,1;p0,0,9;p0,0,9;p0,0,9;p0,0,9;p0,0,9;p0,0,9;");
        t.due(54, "count", 4);
        for (int row = 0; row < 8; row++) t.x.row(row, 0, 0);
        for (int i = 0; i < 90; i++) t.x.feed(0);
        t.x.noons(24);
        t.x.noons(24);
        int[] due = {8, 6, 48, 54, 0, 6, 24, 90};
        for (int what = 0; what <= 7; what++) t.due(due[what], "count", what);
        for (int what : of(-1, 8, MIN, MAX)) t.due(BAD, "count", what);
    }

    private static void status() {
        edges.promise(38, "Of the latest call with a ROW, or as(), that was not BAD, STATE, FULL: the number of its FINDING;");
        Object[][] found = {{"set", of(7, 0, 0), 1}, {"copy", of(7, 0, 0, 0, 0), 1}, {"drop", of(7), 1},
            {"who", of(0, 0, 7, 0, 1), 1}, {"set", of(0, 3, 0), 2}, {"copy", of(0, 0, 0, 0, 4), 2}, {"who", of(0, 0, 0, 3, 1), 2},
            {"as", of(0, 5), 3}, {"row", of(0, 0, -1), 4}, {"copy", of(0, 0, 1, 0, 1), 5}};
        Object[][] none = {{"row", of(2, 2, 0)}, {"set", of(0, 0, 0)}, {"copy", of(0, 0, 0, 0, 0)}, {"drop", of(2)},
            {"who", of(0, 0, 0, 0, 1)}, {"as", of(0, 0)}};
        Object[][] refused = {{"row", of(8, 0, 0)}, {"row", of(0, 3, 0)}, {"row", of(0, 0, 41)}, {"set", of(8, 0, 0)},
            {"copy", of(8, 0, 0, 0, 0)}, {"copy", of(0, 0, 8, 0, 0)}, {"drop", of(-1)}, {"who", of(6, 0, 0, 0, 1)},
            {"who", of(0, 0, 0, 0, 13)}, {"as", of(6, 0)}, {"as", of(0, 6)}, {"undo", of()}, {"noons", of(25)},
            {"restore", of(1)}, {"feed", of(256)}, {"move", of(0, 3)}, {"clock", of(4)}};
        Object[][] others = {{"feed", of(0)}, {"square", of()}, {"fault", of()}, {"noons", of(1)}, {"hide", of(0)},
            {"kind", of(0)}, {"ask", of(0, 0)}, {"trace", of(0)}, {"count", of(0)}, {"image", of(0)}, {"restore", of(0)},
            {"over", of()}, {"rain", of(0, 0, 0, 0)}, {"drawn", of(1, 1, 0)}, {"status", of()}};
        for (Object[] f : found) {
            statusBehind(f, refused);
            statusBehind(f, others);
            for (Object[] n : none) {
                Driver t = stateWithRows();
                t.call((String) f[0], (int[]) f[1]);
                t.call((String) n[0], (int[]) n[1]);
                t.due(0, "status");
            }
        }

        edges.promise(38, "0: it had none, or there was none.");
        edges.driver().due(0, "status");
        Driver t = edges.driver();
        for (Object[] r : refused) t.call((String) r[0], (int[]) r[1]);
        t.due(0, "status");
        for (Object[] n : none) {
            t = stateWithRows();
            t.call((String) n[0], (int[]) n[1]);
            t.due(0, "status");
        }
    }

    private static Driver stateWithRows() {
        Driver t = edges.driver(MIXED);
        t.x.row(0, 0, 3);
        t.x.row(1, 1, 3);
        t.x.row(2, 2, 3);
        return t;
    }

    private static void statusBehind(Object[] found, Object[][] calls) {
        Driver t = stateWithRows();
        t.due(-1000010L - (Integer) found[2], (String) found[0], (int[]) found[1]);
        t.due((Integer) found[2], "status");
        for (Object[] call : calls) {
            t.call((String) call[0], (int[]) call[1]);
            edges.check.due("status() of " + found[0] + " behind " + call[0], t.x.status(), (Integer) found[2]);
        }
    }

    public static void main(String[] args) {
        newObject();
        row();
        set();
        copy();
        drop();
        feed();
        square();
        fault();
        undo();
        noons();
        move();
        write();
        hide();
        clock();
        paper();
        stand();
        images();
        asked();
        counted();
        status();
        edges.end();
    }
}
