import java.util.Arrays;

/** The promises one by one: answers worked out by hand from the document. */
public final class PromiseTest {
    private static final long NONE = Driver.NONE, BAD = Driver.BAD, STATE = Driver.STATE, FULL = Driver.FULL;
    private static final long NULL = Driver.NULL, PLACE = Driver.PLACE, KIND = Driver.KIND, SIZE = Driver.SIZE,
        STORE = Driver.STORE;
    private static final int MIN = Driver.MIN, MAX = Driver.MAX;
    private static final String ALL_KINDS = "c0,0;p3,0,5;l4,0,6;b5,0,7;d6,0,8;s7,0,9;";

    private static final Check check = new Check();
    private PromiseTest() {
    }

    private static Driver driver() {
        return new Driver(check);
    }

    private static Driver driver(String text) {
        return new Driver(check, text);
    }

    private static int[] of(int... a) {
        return a;
    }

    private static void newObject() {
        check.promise("1 a new object");
        Driver t = driver();
        for (int what = 0; what < 8; what++) t.due(0, "count", what);
        t.due(0, "status");
        t.due(0, "fault");
        for (String name : new String[] {"over", "undo"}) t.due(STATE, name);
        for (String name : new String[] {"stand", "noons", "clock"}) {
            for (int v : of(0, 1, -1, 99)) t.due(STATE, name, v);
        }
        for (String name : new String[] {"bitten", "left", "hides", "sets", "byTurns"}) {
            t.due(STATE, name, 1, 0);
            t.due(STATE, name, -1, 9);
        }
        t.due(STATE, "drawn", 1, 1, 0);
        t.due(STATE, "drawn", -1, 0, 9);
        t.due(BAD, "kind", 0);
        t.due(NONE, "trace", 0);
        check.due("NONE", NameNoon.NONE, NONE);
        check.due("BAD", NameNoon.BAD, BAD);
        check.due("STATE", NameNoon.STATE, STATE);
        check.due("FULL", NameNoon.FULL, FULL);
    }

    private static void rows() {
        check.promise("2 row");
        Driver t = driver();
        t.due(0, "row", 0, 0, 0);
        t.due(40, "row", 7, 2, 40);
        t.due(2, "count", 0);
        t.due(5, "row", 7, 1, 5);
        t.due(2, "count", 0);
        t.due(PLACE, "set", 7, 5, 1);
        t.eachBad("row", of(-1, 0, 0), of(8, 0, 0), of(0, -1, 0), of(0, 3, 0), of(0, 0, 41), of(8, 0, -1), of(MIN, 0, 0),
            of(MAX, 0, 0), of(0, 0, MAX), of(0, 3, -1));
        t.changesNothing(SIZE, "row", 7, 1, -1);
        t.changesNothing(SIZE, "row", 3, 1, MIN);
        t.due(1, "set", 7, 4, 1);

        check.promise("2 row: items are 0 at first");
        t = driver("c0,1;p0,0,9;p1,0,9;");
        t.line(0, 5, 5);
        t.due(2, "row", 0, 0, 2);
        t.due(1022, "who", 0, 2, 0, 0, 1);

        check.promise("3 set");
        t.x.row(0, 0, 3);
        t.x.row(1, 1, 3);
        t.x.row(2, 2, 3);
        for (int[] v : new int[][] {of(127, 127, 127), of(128, -128, 128), of(255, -1, 255), of(256, 0, 256),
            of(-129, 127, -129), of(65535, -1, -1), of(32768, 0, -32768), of(70000, 112, 4464), of(MIN, 0, 0)}) {
            t.due(v[1], "set", 0, 0, v[0]);
            t.due(v[2], "set", 1, 1, v[0]);
            t.due(v[0], "set", 2, 2, v[0]);
        }
        t.eachBad("set", of(-1, 0, 0), of(8, 0, 0), of(MAX, -1, 0));
        t.due(PLACE, "set", 0, -1, 0);
        t.due(PLACE, "set", 0, 3, 0);
        t.due(PLACE, "set", 0, MAX, 0);
        t.due(NULL, "set", 3, -1, 0);

        check.promise("5 drop");
        t.due(3, "drop", 0);
        t.due(NULL, "drop", 0);
        t.due(NULL, "set", 0, 0, 0);
        t.due(2, "count", 0);
        t.eachBad("drop", of(-1), of(8), of(MIN));
        t.x.row(0, 2, 0);
        t.due(0, "drop", 0);
    }

    private static void copies() {
        check.promise("4 copy");
        Driver t = driver("c0,1;s0,0,9;s1,0,9;");
        t.line(0, 1, 0, 0, 99, 7);
        t.line(1, 5, 5, 5, 5, 0);
        t.due(2, "copy", 0, 1, 1, 2, 2);
        t.due(0, "who", 0, 2, 1, 1, 1);
        t.due(1016, "who", 0, 2, 1, 2, 3);
        t.line(0, 99, 1, 0, 0, 0);
        t.due(3, "copy", 0, 2, 0, 0, 3);
        t.due(992, "who", 0, 2, 0, 0, 5);
        check.promise("4 copy: as they were ahead");
        t.line(0, 1, 0, 0, 0, 99);
        t.due(4, "copy", 0, 0, 0, 1, 4);
        t.due(0, "who", 0, 2, 0, 1, 1);
        t.due(1016, "who", 0, 2, 0, 2, 3);
        t.due(0, "copy", 0, 5, 1, 5, 0);
        for (int[] a : new int[][] {of(0, -1, 1, 0, 1), of(0, 0, 1, -1, 1), of(0, 0, 1, 0, -1), of(0, 5, 1, 0, 1),
            of(0, 0, 1, 5, 1), of(0, 0, 1, 0, 6), of(0, 6, 1, 0, 0), of(0, 0, 1, 6, 0), of(0, MAX, 1, 0, MAX),
            of(0, 1, 1, 0, MAX), of(0, 0, 1, 1, MAX), of(0, MIN, 1, MIN, MIN)}) {
            t.changesNothing(PLACE, "copy", a);
            t.due(2, "status");
        }
        t.x.row(2, 1, 5);
        t.due(STORE, "copy", 0, 0, 2, 0, 0);
        t.due(STORE, "copy", 2, -1, 0, 0, 99);
        t.due(5, "status");
        t.due(NULL, "copy", 3, 0, 2, 0, 1);
        t.due(NULL, "copy", 2, -1, 3, 0, 1);
        t.due(1, "status");
        t.eachBad("copy", of(-1, 0, 0, 0, 0), of(0, 0, 8, 0, 0), of(8, 0, 3, 0, 0), of(3, 0, -1, 0, 0));
    }

    private static void tape() {
        check.promise("6 feed");
        Driver t = driver();
        for (int i = 1; i <= 90; i++) t.due(i, "feed", i % 2 == 0 ? 0 : 255);
        t.changesNothing(FULL, "feed", 0);
        t.eachBad("feed", of(-1), of(256), of(MIN), of(MAX));
        t.due(90, "count", 7);
        check.promise("7 square");
        t.due(-1000100, "square");
        t.due(0, "count", 7);
        t.due(1, "feed", 'c');
    }

    private static void faultIs(String text, int place, int fault) {
        Driver t = driver("c3,1;d2,0,4;p2,0,4;");
        t.x.noons(2);
        for (char c : text.toCharArray()) t.x.feed(c);
        String before = t.look().replaceFirst(text.length() + " ", "0 ");
        check.due("square() of " + text, t.x.square(), -1000100L - place);
        check.due("fault() of " + text, t.x.fault(), fault);
        String behind = t.look();
        check.same("all behind the fault in " + text, behind.substring(20, behind.lastIndexOf(' ')),
            before.substring(20, before.lastIndexOf(' ')));
        t.due(0, "count", 7);
        t.due(2, "count", 6);
        t.due(2, "count", 1);
    }

    private static void faults() {
        check.promise("7 square, 8 fault");
        String six = "c0,0;p0,0,1;l0,0,1;b0,0,1;d0,0,1;s0,0,1;p0,0,1;";
        faultIs("", 0, 1);
        faultIs("p0,0,1;", 0, 1);
        faultIs("C0,0;p0,0,1;", 0, 1);
        faultIs("c", 1, 1);
        faultIs("c,0;", 1, 1);
        faultIs("c10,0;p0,0,1;", 1, 2);
        faultIs("c99,999;", 1, 2);
        faultIs("c100,0;p0,0,1;", 1, 1);
        faultIs("c0000,0;p0,0,1;", 1, 1);
        faultIs("c0;", 2, 1);
        faultIs("c0,3;p0,0,1;", 3, 2);
        faultIs("c0,1", 4, 1);
        faultIs("c0,1,", 4, 1);
        faultIs("c0,1;", 5, 1);
        faultIs("c0,1; p0,0,1;", 5, 1);
        faultIs("c0,1;c0,1;", 5, 1);
        faultIs("c0,1;a0,0,1;", 5, 1);
        faultIs("c0,1;10,0,1;", 5, 1);
        faultIs("c0,1;pp0,0,1;", 6, 1);
        faultIs("c0,1;p10,0,1;", 6, 2);
        faultIs("c0,1;p0,10,1;", 8, 2);
        faultIs("c0,1;p0,0,0;", 10, 2);
        faultIs("c0,1;p0,0,00;", 10, 2);
        faultIs("c0,1;p0,0,10;", 10, 2);
        faultIs("c0,1;p0,0,001;", 10, 1);
        faultIs("c0,1;p0,0,1", 11, 1);
        faultIs("c0,1;p0,0,1;;", 12, 1);
        faultIs("c0,1;p0,0,1;l", 13, 1);
        faultIs(six + "p0,0,1;", 47, 3);
        faultIs(six + "s", 47, 3);
        faultIs(six + "x", 47, 1);
        faultIs(six + "c", 47, 1);
        faultIs(six + "1", 47, 1);
        faultIs(six + (char) 200, 47, 1);

        check.promise("7 square");
        Driver t = driver(six + "p");
        t.due(3, "fault");
        check.due("six papers", t.tell(six), 6);
        t.due(3, "fault");
        check.due("two figures", t.tell("c09,02;p08,07,09;"), 1);
        t.due(9, "stand", 1);
        t.due(2, "stand", 2);
        t.due(8, "paper", 0, 0);
        t.due(7, "paper", 0, 1);
        t.due(9, "paper", 0, 2);
        check.promise("7 square: all anew");
        t = driver("c0,2;p0,0,9;p9,0,9;");
        t.x.hide(1);
        t.x.noons(1);
        t.due(4, "stand", 3);
        check.due("anew", t.tell("c5,1;s5,1,3;"), 1);
        for (int what : of(2, 3, 5, 6)) t.due(0, "count", what);
        t.due(3, "count", 4);
        for (int what : of(3, 4, 5, 6)) t.due(0, "stand", what);
        t.due(5, "stand", 1);
        t.due(1, "paper", 0, 3);
        t.due(BAD, "paper", 1, 0);
        t.due(STATE, "undo");
    }

    private static void undoes() {
        check.promise("9 undo");
        Driver t = driver("c4,2;l4,0,3;b4,1,9;p9,9,9;");
        String[] seen = new String[40];
        int acts = 0;
        int[][] calls = {of(0, 1), of(1, 0, 7), of(2, 0, 9), of(3, 1), of(3, 1), of(4, 9), of(0, 1), of(0, 1), of(3, 2),
            of(2, 2, 1), of(0, 1), of(1, 2, 8)};
        String[] names = {"noons", "move", "write", "hide", "clock"};
        for (int round = 0; round < 3; round++) {
            for (int[] c : calls) {
                seen[acts] = t.look();
                if (Calls.call(t.x, names[c[0]], Arrays.copyOfRange(c, 1, c.length)) > STATE + 2) acts++;
            }
        }
        check.holds("more than 24 acts were done", acts > 26);
        t.due(24, "count", 6);
        for (int left = 23; left >= 0; left--) {
            acts--;
            t.due(left, "undo");
            t.due(left, "count", 6);
            check.same("what undo leaves", Driver.uncounted(t.look()), Driver.uncounted(seen[acts]));
        }
        t.due(STATE, "undo");
    }

    private static void bites(String text, int[] lost, int... letters) {
        Driver t = driver(text);
        int sum = 0;
        for (int n : lost) {
            t.due(n, "noons", 1);
            sum += n;
        }
        t.due(sum, "count", 3);
        t.due(lost.length, "count", 2);
        for (int p = 0; p < letters.length; p++) t.due(letters[p], "paper", p, 2);
    }

    private static void noons() {
        check.promise("10 noons: plain ones, and rest");
        bites("c0,1;p0,0,9;p1,0,3;", of(9, 0, 0, 0, 0, 3, 0), 0, 0);
        bites("c0,1;p0,0,6;p1,0,3;", of(6, 0, 3), 0, 0);
        bites("c0,1;p0,0,5;p1,0,3;", of(5, 3), 0, 0);
        check.promise("10 noons: Latin ones");
        bites("c0,1;l0,0,8;", of(8, 0, 0, 0, 0), 0);
        bites("c0,1;l0,0,3;", of(0, 0, 0), 3);
        Driver t = driver("c7,1;l8,0,1;");
        t.due(0, "noons", 1);
        t.due(9, "paper", 0, 0);
        t.due(0, "noons", 1);
        t.due(9, "paper", 0, 0);
        check.promise("10 noons: borrowed ones");
        bites("c0,1;b0,0,3;p5,0,5;", of(3, 2, 3, 0), 0, 0);
        bites("c0,1;b0,0,3;p5,0,5;", of(3), 3, 2);
        bites("c9,1;p0,0,4;b9,0,2;l0,0,9;", of(2), 4, 2, 7);
        bites("c9,1;p0,0,4;p0,0,4;b9,0,2;", of(2, 2, 2), 0, 2, 2);
        bites("c9,1;b9,9,9;b9,0,2;b9,9,9;", of(2, 2, 2, 2, 1, 2), 7, 2, 0);
        t = driver("c0,1;b0,0,8;p5,0,5;p6,0,9;");
        t.x.hide(1);
        t.due(5, "noons", 1);
        t.due(0, "paper", 1, 2);
        t.due(8, "noons", 1);
        t.due(1, "paper", 2, 2);
        t.due(3, "stand", 3);
        check.promise("10 noons: double ones, those of streets");
        bites("c0,1;d0,0,9;", of(5, 2, 1, 1, 0), 0);
        bites("c0,1;d0,0,8;", of(4, 2, 1, 1, 0), 0);
        bites("c0,1;s0,0,3;", of(1, 1, 1, 0), 0);
        check.promise("10 noons: which is bitten");
        bites("c5,1;p3,0,1;p7,0,2;p5,2,2;", of(2, 2, 1), 0, 0, 0);
        bites("c5,1;p3,0,1;p7,0,2;p5,2,2;", of(2), 1, 0, 2);
        bites("c0,1;p0,9,1;p8,0,2;", of(2, 1), 0, 0);
        bites("c0,1;p9,0,1;p0,9,2;p9,9,3;", of(2, 1, 3), 0, 0, 0);
        noonsAndClock();
    }

    private static void noonsAndClock() {
        check.promise("10 noons: the clock goes on");
        Driver t = driver("c1,0;p1,0,7;");
        for (int place : of(0, 9, 8, 7)) {
            t.x.noons(1);
            t.due(place, "stand", 1);
        }
        t = driver("c8,2;p1,0,7;");
        for (int place : of(9, 0, 1, 2)) {
            t.x.noons(1);
            t.due(place, "stand", 1);
        }
        t = driver("c8,1;p1,0,7;");
        t.x.noons(24);
        t.due(8, "stand", 1);

        check.promise("10 noons: nothing is bitten");
        t = driver("c8,2;p1,0,7;");
        t.x.hide(0);
        t.due(0, "noons", 3);
        t.due(1, "stand", 1);
        t.due(3, "count", 2);
        t.due(7, "paper", 0, 2);
        t.x.hide(0);
        t.due(7, "noons", 3);
        t.due(0, "stand", 3);
        t.due(7, "count", 3);

        check.promise("10 noons: refusals");
        t = driver("c1,0;s1,0,7;");
        t.eachBad("noons", of(0), of(25), of(-1), of(MIN), of(MAX));
        for (int i = 0; i < 41; i++) t.x.noons(24);
        t.due(984, "count", 2);
        t.changesNothing(FULL, "noons", 16);
        t.due(BAD, "noons", 25);
        t.due(0, "noons", 15);
        t.due(999, "count", 2);
        t.changesNothing(FULL, "noons", 1);
        t.due(23, "undo");
        t.due(0, "noons", 1);
    }

    private static void doings() {
        check.promise("11 move");
        Driver t = driver("c5,1;p3,2,1;l7,0,2;");
        t.due(3, "move", 0, 9);
        t.due(9, "paper", 0, 0);
        t.due(6, "paper", 0, 3);
        t.due(1, "count", 6);
        t.changesNothing(STATE, "move", 0, 9);
        t.due(9, "move", 0, 0);
        t.eachBad("move", of(2, 0), of(-1, 0), of(0, -1), of(0, 10), of(MAX, MAX));
        check.promise("12 write");
        t.due(1, "write", 0, 9);
        t.due(9, "write", 0, 9);
        t.due(9, "write", 0, 1);
        t.due(5, "count", 6);
        t.due(1, "paper", 0, 2);
        t.eachBad("write", of(2, 1), of(-1, 1), of(0, 0), of(0, 10), of(MIN, 1));
        check.promise("13 hide");
        t.due(1, "hide", 1);
        t.due(1, "paper", 1, 4);
        t.due(2, "stand", 5);
        t.due(0, "stand", 6);
        t.due(0, "hide", 1);
        t.due(0, "paper", 1, 4);
        t.due(7, "count", 6);
        t.eachBad("hide", of(2), of(-1), of(MAX), of(MIN), of(32));
        check.promise("14 clock");
        t.due(5, "clock", 0);
        t.due(0, "stand", 1);
        t.changesNothing(STATE, "clock", 0);
        t.due(0, "clock", 9);
        t.due(9, "count", 6);
        t.eachBad("clock", of(-1), of(10), of(MIN));

        check.promise("15 paper");
        t = driver("c4,2;p3,1,6;l5,0,7;b9,9,5;");
        t.due(2, "paper", 0, 3);
        t.due(1, "paper", 1, 3);
        t.due(14, "paper", 2, 3);
        t.due(5, "paper", 1, 0);
        t.due(9, "paper", 2, 1);
        t.eachBad("paper", of(3, 0), of(-1, 0), of(0, 5), of(0, -1), of(6, 0), of(MAX, MIN));
        check.promise("16 stand");
        t = driver("c4,2;p3,1,6;p5,0,9;b9,9,5;");
        for (int[] a : new int[][] {of(0, 3), of(1, 4), of(2, 2), of(3, 0), of(4, 0), of(5, 0), of(6, 1)}) {
            t.due(a[1], "stand", a[0]);
        }
        t.x.hide(2);
        t.x.noons(1);
        for (int[] a : new int[][] {of(0, 3), of(1, 5), of(2, 2), of(3, 4), of(4, 2), of(5, 4)}) {
            t.due(a[1], "stand", a[0]);
        }
        t.due(NONE, "stand", 6);
        t.x.noons(4);
        t.due(0, "stand", 6);
        t.x.noons(2);
        t.due(NONE, "stand", 6);
        t.eachBad("stand", of(-1), of(7), of(MAX));
    }

    private static void foretold() {
        check.promise("17 ahead");
        Driver t = driver("c5,1;l5,0,3;d9,0,9;");
        t.due(5, "ahead", 0, 0, 1);
        t.due(7, "ahead", 0, 2, 1);
        t.due(8, "ahead", 0, 3, 1);
        t.due(9, "ahead", 0, 5, 1);
        t.due(3, "ahead", 0, 60, 0);
        t.due(9, "ahead", 1, 4, 0);
        t.due(4, "ahead", 1, 5, 0);
        t.due(2, "ahead", 1, 6, 0);
        t.due(2, "ahead", 1, 60, 0);
        t.eachBad("ahead", of(0, -1, 0), of(0, 61, 0), of(0, 0, 2), of(0, 0, -1), of(2, 0, 0), of(-1, 0, 0));
        check.promise("18 bitten");
        t = driver("c0,1;b0,0,7;p9,0,9;");
        int[] who = {0, -1, -1, 0, 0, -1, -1, -1};
        int[] lost = {7, 0, 0, 2, 7, 0, 0, 0};
        for (int n = 1; n <= who.length; n++) {
            t.due(who[n - 1] < 0 ? NONE : who[n - 1], "bitten", n, 0);
            t.due(lost[n - 1], "bitten", n, 1);
        }
        t.due(NONE, "bitten", 60, 0);
        t.eachBad("bitten", of(0, 0), of(61, 0), of(1, 2), of(1, -1), of(MIN, 0));
        check.promise("19 left");
        t = driver("c0,0;p9,0,7;s9,1,3;");
        int[][] left = {of(10, 0, 0), of(3, 1, 9), of(3, 1, 8), of(3, 1, 7), of(2, 1, 6), of(1, 1, 5), of(0, 3, 4)};
        for (int n = 0; n < left.length; n++) for (int what = 0; what < 3; what++) t.due(left[n][what], "left", n, what);
        t.due(0, "left", 60, 2);
        t.eachBad("left", of(-1, 0), of(61, 0), of(0, 3), of(0, -1));
        whenAndOver();
    }

    private static void whenAndOver() {
        check.promise("20 when");
        Driver t = driver("c0,1;d0,0,3;p9,0,4;l9,9,3;");
        t.due(1, "when", 0, 0);
        t.due(2, "when", 0, 1);
        t.due(3, "when", 1, 0);
        t.due(3, "when", 1, 1);
        t.due(4, "when", 2, 0);
        t.due(NONE, "when", 2, 1);
        t.x.hide(1);
        t.due(NONE, "when", 1, 0);
        t.due(NONE, "when", 1, 1);
        t.x.noons(2);
        t.due(NONE, "when", 0, 0);
        t.due(0, "when", 0, 1);
        t.eachBad("when", of(3, 0), of(-1, 0), of(0, 2), of(0, -1));
        check.promise("20 when: 60 is the last");
        t = driver("c0,1;s0,0,9;s0,1,9;s0,2,9;s0,3,9;s0,4,9;s0,5,9;");
        t.due(46, "when", 5, 0);
        t.due(54, "when", 5, 1);
        check.promise("21 over");
        t.due(54, "over");
        t.x.noons(9);
        t.x.write(0, 9);
        t.due(54, "over");
        t.x.hide(0);
        t.due(NONE, "over");
        t = driver("c0,1;p0,0,9;p0,1,9;p0,2,9;p0,3,9;p0,4,9;p0,5,9;");
        t.due(26, "over");
        t.x.noons(24);
        t.x.noons(2);
        t.due(0, "over");
        check.due("one that is never eaten", driver("c0,1;l0,0,3;").x.over(), NONE);
        edgeOfForesight();
    }

    private static void edgeOfForesight() {
        check.promise("20 when, 21 over: 60, and not 61");
        String[] over = {"c3,2;l4,2,9;s2,5,1;b0,7,2;b9,3,7;s8,0,5;l4,1,1;", "c5,2;b2,5,1;s9,2,2;s3,3,8;b5,7,7;l8,2,9;s4,2,2;"};
        String[] bitten = {"c4,2;s8,9,4;s4,6,1;l2,0,9;b4,7,7;b1,7,2;b9,1,1;", "c1,2;s0,7,9;b6,8,4;l9,3,2;s0,8,1;l7,2,1;s1,7,8;"};
        Driver t = driver(over[0]);
        t.due(60, "over");
        t.x.noons(1);
        t.due(59, "over");
        t = driver(over[1]);
        t.due(NONE, "over");
        t.x.noons(1);
        t.due(60, "over");
        t = driver(bitten[0]);
        t.due(60, "when", 3, 0);
        t.due(3, "bitten", 60, 0);
        t = driver(bitten[1]);
        t.due(NONE, "when", 3, 0);
        t.x.noons(1);
        t.due(60, "when", 3, 0);
        t = driver("c1,2;s1,2,2;l7,1,1;b1,7,1;l3,0,9;l3,9,1;");
        t.due(NONE, "when", 4, 1);
        t.x.noons(1);
        t.due(60, "when", 4, 1);
        t = driver("c0,1;b0,0,1;s9,9,9;p9,9,9;p9,9,9;p9,9,9;p9,9,9;");
        t.due(45, "when", 5, 1);
        t.due(46, "over");
        t = driver("c0,1;d0,0,9;s1,1,9;s2,2,9;s3,3,9;s4,4,9;s5,5,9;");
        t.due(49, "over");
    }

    private static void sought() {
        check.promise("22 spot");
        Driver t = driver("c0,1;p0,0,4;p5,0,4;");
        t.due(6, "spot", 0, 1, 0);
        t.due(4, "spot", 0, 1, 1);
        t.due(0, "spot", 0, 2, 0);
        t.due(0, "spot", 0, 2, 1);
        t.due(0, "spot", 1, 60, 0);
        t.due(0, "spot", 1, 1, 0);
        t.due(4, "spot", 1, 1, 1);
        t.x.clock(9);
        t.due(0, "spot", 0, 1, 0);
        t.x.hide(1);
        t.due(0, "spot", 0, 1, 1);
        t.due(4, "spot", 1, 60, 1);
        t.eachBad("spot", of(0, 0, 0), of(0, 61, 0), of(0, 1, 2), of(0, 1, -1), of(2, 1, 0), of(-1, 1, 0));
        check.promise("23 decoy");
        t = driver("c0,1;p1,0,5;p1,0,5;");
        int[] least = {6, 6, 7, 8, 9};
        for (int n = 1; n <= 5; n++) t.due(least[n - 1], "decoy", 1, 0, n);
        t.due(NONE, "decoy", 1, 0, 6);
        t.due(NONE, "decoy", 1, 0, 40);
        t.due(5, "decoy", 0, 1, 1);
        t.x.hide(1);
        t.due(NONE, "decoy", 1, 0, 1);
        t.due(1, "decoy", 0, 1, 40);
        t.eachBad("decoy", of(0, 0, 1), of(0, 2, 1), of(2, 0, 1), of(-1, 0, 1), of(0, -1, 1), of(0, 1, 0), of(0, 1, 41));
        t.x.noons(1);
        t.due(1, "decoy", 1, 0, 40);
        check.promise("24 hides");
        t = driver("c0,1;p0,0,4;s0,1,9;p9,9,3;");
        t.x.hide(2);
        int[][] hides = {of(1, 1, 1), of(9, 1, 1), of(10, 2, 5), of(40, 2, 5)};
        for (int[] h : hides) {
            t.due(h[1], "hides", h[0], 0);
            t.due(h[2], "hides", h[0], 1);
        }
        t.due(4, "stand", 5);
        t.eachBad("hides", of(0, 0), of(41, 0), of(1, 2), of(1, -1));
        t.x.noons(1);
        t.due(0, "hides", 9, 0);
        t.due(4, "hides", 10, 1);
        check.promise("24 hides: hidden ones may lose");
        t = driver("c0,1;b0,0,2;p0,0,9;");
        t.due(2, "hides", 5, 1);
        t.due(3, "hides", 6, 1);
        check.promise("24 hides: the least of several");
        check.due("hides", driver("c0,1;b0,0,1;l5,0,3;").x.hides(1, 1), 1);
        check.due("hides", driver("c0,1;l5,0,3;b0,0,1;").x.hides(1, 1), 1);
    }

    private static void setsAndShares() {
        check.promise("25 sets");
        Driver t = driver("c0,1;p9,0,3;p9,0,4;p9,0,7;p0,0,5;");
        t.x.noons(1);
        int[][] sets = {of(0, 1, 0, 0), of(1, 0, 0, 0), of(5, 0, 0, 0), of(7, 2, 0, 7), of(10, 1, 5, 5), of(11, 1, 6, 6),
            of(14, 1, 7, 7), of(19, 0, 0, 0), of(54, 0, 0, 0)};
        for (int[] s : sets) for (int what = 0; what < 3; what++) t.due(s[what + 1], "sets", s[0], what);
        t.x.write(3, 4);
        t.due(3, "sets", 7, 0);
        t.due(2, "sets", 14, 0);
        t.due(5, "sets", 14, 1);
        t.due(15, "sets", 14, 2);
        t.eachBad("sets", of(-1, 0), of(55, 0), of(0, 3), of(0, -1), of(MAX, 0));
        check.due("all of the longest", driver("c0,0;p0,0,9;p0,0,9;p0,0,9;p0,0,9;p0,0,9;p0,0,9;").x.sets(54, 1), 63);
        check.promise("26 share");
        t = driver("c0,1;p9,0,3;p9,0,4;p9,0,7;");
        int[][] shares = {of(0, 0, 0, 0), of(1, 1, 0, 0), of(2, 1, 0, 1), of(10, 3, 2, 5), of(14, 3, 4, 7),
            of(999, 215, 285, 499)};
        for (int[] s : shares) for (int p = 0; p < 3; p++) t.due(s[p + 1], "share", p, s[0]);
        t.x.clock(9);
        t.x.noons(1);
        for (int[] s : new int[][] {of(1, 1, 0, 0), of(5, 3, 2, 0)}) for (int p = 0; p < 3; p++) t.due(s[p + 1], "share", p, s[0]);
        t.x.noons(4);
        for (int p = 0; p < 3; p++) t.due(0, "share", p, 999);
        t.eachBad("share", of(0, -1), of(0, 1000), of(3, 0), of(-1, 0));
        t = driver("c0,1;p0,0,5;s9,0,1;s9,0,1;s9,0,1;");
        t.x.noons(1);
        for (int[] s : new int[][] {of(0, 0), of(1, 2), of(2, 2), of(3, 1)}) t.due(s[1], "share", s[0], 5);
    }

    private static void turns() {
        check.promise("27 byTurns");
        Driver t = driver("c0,1;p0,0,4;p1,0,5;");
        int[] comes = {-5, 4, -5, 4, -5};
        for (int n = 0; n <= 4; n++) {
            t.due(comes[n], "byTurns", n, 1);
            t.due(0, "byTurns", n, 20);
        }
        t.due(0, "count", 6);
        t.eachBad("byTurns", of(-1, 1), of(5, 1), of(0, 0), of(0, 21), of(MAX, MIN));
        check.promise("27 byTurns: not beyond 9, and the last one is the last");
        for (String edge : new String[] {"c9,1;p0,0,4;s5,0,9;p0,1,5;", "c0,1;p9,0,4;s5,0,9;p9,1,5;"}) {
            t = driver(edge);
            t.x.hide(1);
            for (int n = 0; n <= 4; n++) t.due(-5, "byTurns", n, 1);
        }
        for (String edge : new String[] {"c9,1;p0,1,5;s5,0,9;p0,0,4;", "c0,1;p9,1,5;s5,0,9;p9,0,4;"}) {
            t = driver(edge);
            t.x.hide(1);
            for (int n = 0; n <= 4; n++) t.due(5, "byTurns", n, 1);
        }
        t = driver("c9,1;p1,0,4;p1,0,5;");
        for (int n = 0; n <= 4; n++) t.due(4, "byTurns", n, 1);
        check.due("one paper", driver("c0,1;p0,0,4;").x.byTurns(4, 20), 0);
    }

    private static void whos() {
        check.promise("28 who");
        Driver t = driver("c5,1;p5,0,5;p9,0,3;");
        t.line(0, 0, 1, 99);
        int[] two = {2, 1022, 62, 255};
        for (int which = 0; which < 4; which++) t.due(two[which], "who", 0, which, 0, 0, 2);
        t.due(2, "who", 0, 0, 0, 0, 3);
        t.line(0, 7, 0, 99, 1);
        t.due(64, "who", 0, 2, 0, 1, 3);
        t.line(0, 0, 0, 0, 0, 0);
        t.due(8 + 16 + 32 + 4, "who", 0, 0, 0, 0, 2);
        t.due(4 + 32, "who", 0, 0, 0, 0, 5);
        t.line(0, 99);
        t.due(0, "who", 0, 0, 0, 0, 1);
        t.due(0, "status");
        t.x.noons(2);
        for (int[] d : new int[][] {of(0, 62), of(1, 1023), of(2, 0), of(3, 1023)}) t.due(d[1], "who", 1, d[0], 0, 0, 1);
        t.x.row(1, 2, 12);
        t.due(0, "who", 0, 0, 1, 0, 12);
        t.eachBad("who", of(2, 0, 1, 0, 1), of(-1, 0, 1, 0, 1), of(0, 4, 1, 0, 1), of(0, -1, 1, 0, 1), of(0, 0, 8, 0, 1),
            of(0, 0, -1, 0, 1), of(0, 0, 1, 0, 0), of(0, 0, 1, 0, 13), of(0, 0, 5, 0, 13), of(2, 3, 1, 0, 1));
        t.changesNothing(NULL, "who", 0, 0, 5, -1, 1);
        t.due(1, "status");
        for (int[] a : new int[][] {of(0, 0, 1, -1, 1), of(0, 0, 1, 1, 12), of(0, 0, 1, 12, 1), of(0, 0, 1, MAX, 12)}) {
            t.changesNothing(PLACE, "who", a);
            t.due(2, "status");
        }
    }

    private static void rains() {
        check.promise("29 rain");
        Driver t = driver("c0,1;p0,0,4;p0,1,4;");
        int[][] rains = {of(1, 1, 3, 79, 100), of(1, 2, 3, 3, 10), of(1, 2, 0, 0, 1), of(1, 60, 10, 1, 1), of(0, 0, 5, 1, 1),
            of(0, 1, 5, 1, 2), of(1, 1, 5, 3, 4), of(0, 1, 0, 0, 1)};
        for (int[] r : rains) {
            t.due(r[3], "rain", r[0], r[1], r[2], 0);
            t.due(r[4], "rain", r[0], r[1], r[2], 1);
        }
        t.x.hide(0);
        t.due(3, "rain", 1, 1, 3, 0);
        t.due(10, "rain", 1, 1, 3, 1);
        t.due(1, "rain", 0, 60, 3, 0);
        t.due(1, "rain", 0, 60, 3, 1);
        t.x.hide(0);
        t.x.noons(1);
        t.due(0, "rain", 0, 0, 5, 0);
        t.due(1, "rain", 0, 0, 5, 1);
        t.due(1, "rain", 1, 60, 2, 0);
        t.due(5, "rain", 1, 60, 2, 1);
        t.eachBad("rain", of(2, 0, 0, 0), of(-1, 0, 0, 0), of(0, -1, 0, 0), of(0, 61, 0, 0), of(0, 0, -1, 0), of(0, 0, 11, 0),
            of(0, 0, 0, 2), of(0, 0, 0, -1));
        t = driver("c0,1;p0,0,1;p0,1,1;p0,2,1;p0,3,1;p0,4,1;p0,5,1;");
        t.due(3, "rain", 5, 6, 3, 0);
        t.due(10, "rain", 5, 6, 3, 1);
        t.due(300000 + 7 * 7 * 7 * 7 * 7 * 7, "rain", 5, 5, 3, 0);
        t.due(1000000, "rain", 5, 5, 3, 1);
    }

    private static void draws() {
        check.promise("30 drawn");
        Driver t = driver("c0,1;p0,0,4;p9,0,4;");
        int[] eaten = {0, 4, 8, 14, 14, 17};
        int[] letters = {8, 4, 0, 0, 3, 0};
        for (int n = 0; n <= 5; n++) {
            t.due(eaten[n], "drawn", n, 1, 0);
            t.due(letters[n], "drawn", n, 1, 1);
        }
        t.x.noons(1);
        t.due(0, "drawn", 0, 1, 0);
        t.eachBad("drawn", of(-1, 1, 0), of(61, 1, 0), of(1, 0, 0), of(1, 1000000, 0), of(1, 1, 2), of(1, 1, -1));
        check.promise("30 drawn: moved");
        t = driver("c0,1;p3,0,4;p9,0,5;");
        t.due(5, "drawn", 1, 3, 0);
        t.due(4, "drawn", 1, 3, 1);
        t.due(9, "paper", 1, 0);
    }

    private static void images() {
        check.promise("31 image, 32 restore");
        Driver t = driver();
        t.eachBad("image", of(-1), of(2));
        t.eachBad("restore", of(-1), of(2));
        t.changesNothing(STATE, "image", 0);
        t.changesNothing(STATE, "restore", 0);
        t.tell("c1,2;p1,0,9;s5,0,3;");
        t.x.hide(1);
        t.x.noons(2);
        String first = t.look();
        t.due(1, "image", 0);
        check.same("all behind image", t.look(), first);
        t.changesNothing(STATE, "restore", 1);
        t.x.noons(3);
        t.x.move(0, 8);
        t.due(1, "image", 1);
        String second = t.look();
        t.tell("c0,0;l0,0,1;");
        t.due(1, "restore", 0);
        check.same("the first image", Driver.uncounted(t.look()), Driver.uncounted(first));
        t.due(0, "count", 6);
        t.due(STATE, "undo");
        t.x.write(0, 7);
        t.due(1, "count", 6);
        t.due(1, "restore", 1);
        check.same("the second image", Driver.uncounted(t.look()), Driver.uncounted(second));
        t.due(0, "count", 6);
        t.due(1, "restore", 0);
        check.same("the first image again", Driver.uncounted(t.look()), Driver.uncounted(first));
    }

    private static void asked() {
        check.promise("33 kind");
        Driver t = driver(ALL_KINDS);
        for (int p = 0; p < 5; p++) t.due(p + 1, "kind", p);
        t.eachBad("kind", of(-1), of(5), of(6), of(MIN));
        check.promise("34 as");
        int[][] kindsOf = {of(0, 1), of(0, 1, 2), of(0, 1, 3), of(0, 4), of(0, 4, 5)};
        for (int p = 0; p < 5; p++) {
            for (int kind = 0; kind < 6; kind++) {
                boolean is = Arrays.binarySearch(kindsOf[p], kind) >= 0;
                t.changesNothing(is ? p : KIND, "as", p, kind);
                t.due(is ? 0 : 3, "status");
            }
        }
        t.eachBad("as", of(-1, 0), of(5, 0), of(0, -1), of(0, 6));
        check.promise("35 ask, 36 trace");
        int[][] size = {of(8, 11, 10, 21, 20), of(-16, 12, 11, 10, 24, 21, 20), of(-986, 11, 10, 22, 21, 20),
            of(-92, 13, 10), of(-182, 14, 13, 10)};
        int[][] mark = {of(3, 21, 20), of(10, 24, 21, 20), of(-993, 22, 21, 20), of(95, 23, 20, 13, 10),
            of(186, 23, 20, 14, 13, 10)};
        for (int p = 0; p < 5; p++) {
            for (int what = 0; what < 2; what++) {
                int[] due = what == 0 ? size[p] : mark[p];
                t.due(due[0], "ask", p, what);
                for (int i = 1; i < due.length; i++) t.due(due[i], "trace", i - 1);
                for (int i : of(due.length - 1, 16, MAX, -1, MIN)) t.due(NONE, "trace", i);
            }
        }
        t.eachBad("ask", of(-1, 0), of(5, 0), of(0, 2), of(0, -1));
        t.due(23, "trace", 0);
    }

    private static void counted() {
        check.promise("37 count");
        Driver t = driver("c4,2;p4,0,9;s4,4,8;p9,9,2;");
        t.x.row(3, 0, 0);
        t.x.row(4, 0, 1);
        t.x.feed('c');
        t.x.feed(' ');
        t.x.feed(0);
        t.x.noons(7);
        int[] due = {2, 3, 7, 11, 8, 1, 7, 3};
        for (int what = 0; what < 8; what++) t.due(due[what], "count", what);
        t.eachBad("count", of(-1), of(8), of(MIN), of(MAX));

        check.promise("38 status");
        t.due(0, "status");
        t.due(NULL, "drop", 0);
        t.due(1, "status");
        for (int[] a : new int[][] {of(8, 0, 0), of(0, 3, 0), of(0, 0, 41)}) {
            t.due(BAD, "row", a);
            t.due(1, "status");
        }
        t.due(BAD, "as", 3, 0);
        t.due(BAD, "ask", 3, 0);
        t.due(STATE, "restore", 0);
        t.due(4, "noons", 4);
        t.due(1, "status");
        t.due(SIZE, "row", 0, 0, -1);
        t.due(4, "status");
        t.due(0, "as", 0, 1);
        t.due(0, "status");
        t.due(KIND, "as", 1, 1);
        t.due(3, "status");
        t.due(1, "row", 0, 0, 1);
        t.due(0, "status");
        t.due(PLACE, "set", 0, 1, 0);
        t.due(2, "status");
        t.due(0, "set", 0, 0, 0);
        t.due(0, "status");
        t.due(NULL, "who", 0, 0, 7, 0, 1);
        t.due(1, "status");
        t.x.who(0, 0, 0, 0, 1);
        t.due(0, "status");
        t.due(NULL, "copy", 7, 0, 0, 0, 0);
        t.due(1, "status");
        t.due(0, "copy", 0, 0, 0, 0, 0);
        t.due(0, "status");
        t.due(NULL, "drop", 7);
        t.due(1, "drop", 0);
        t.due(0, "status");
    }

    public static void main(String[] args) {
        newObject();
        rows();
        copies();
        tape();
        faults();
        undoes();
        noons();
        doings();
        foretold();
        sought();
        setsAndShares();
        turns();
        whos();
        rains();
        draws();
        images();
        asked();
        counted();
        check.end();
    }
}
