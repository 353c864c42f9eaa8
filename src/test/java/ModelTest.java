import java.util.ArrayList;
import java.util.Arrays;
import java.util.List;
import java.util.Random;

/** Runs of drawn calls (by fixed seeds) on the class and on the model: every answer must be the same. */
public final class ModelTest {
    private static final int RUNS = 4000, CALLS = 400;
    private static final int[] EDGES = {-1, 0, 1, 2, 3, 4, 5, 6, 7, 8, 9, 10, 11, 12, 13, 20, 21, 24, 25, 39, 40, 41,
        54, 55, 60, 61, 255, 256, 999, 1000, 999999, 1000000, -1000000, Integer.MAX_VALUE, Integer.MIN_VALUE};

    private final Random random;
    private final NameNoon real = new NameNoon();
    private final Model model = new Model();
    private final List<String> told = new ArrayList<>();
    private boolean wrong;

    private ModelTest(long seed) {
        random = new Random(seed);
    }

    private int upTo(int most) {
        return random.nextInt(most + 1);
    }

    private boolean oneIn(int n) {
        return random.nextInt(n) == 0;
    }

    private long call(String name, int... a) {
        long got = Calls.call(real, name, a);
        long due = model.call(name, a);
        told.add(name + Arrays.toString(a) + " = " + got);
        if (got != due && !wrong) {
            wrong = true;
            told.add("    due is " + due);
        }
        return due;
    }

    private void feedText(String text) {
        for (char c : text.toCharArray()) call("feed", c);
        call("square");
        call("fault");
    }

    private String aSquare() {
        StringBuilder s = new StringBuilder("c" + upTo(9) + "," + upTo(2) + ";");
        int papers = 1 + upTo(oneIn(20) ? 6 : 5);
        int lowest = oneIn(2) ? 9 : 2;
        for (int i = 0; i < papers; i++) {
            s.append("plbds".charAt(upTo(4))).append(oneIn(20) ? "0" : "").append(upTo(9)).append(',')
                .append(upTo(lowest)).append(',').append(1 + upTo(8)).append(';');
        }
        return s.toString();
    }

    private String spoilt(String text) {
        StringBuilder s = new StringBuilder(text);
        String signs = "cplbdsxz0123456789,; A" + (char) 0 + (char) 200;
        for (int n = 1 + upTo(1); n > 0; n--) {
            int at = upTo(s.length() - 1);
            char c = signs.charAt(upTo(signs.length() - 1));
            switch (upTo(3)) {
                case 0: s.setCharAt(at, c); break;
                case 1: s.insert(at, c); break;
                case 2: if (s.length() > 1) s.deleteCharAt(at); break;
                default: s.setLength(at + 1); break;
            }
        }
        return s.toString();
    }

    private void tellSquare() {
        feedText(oneIn(3) ? spoilt(aSquare()) : aSquare());
    }

    /** The ends of the ranges come as often as what is within. */
    private int near(int least, int most) {
        switch (upTo(11)) {
            case 0: return least;
            case 1: return most;
            case 2: return oneIn(3) ? least - 1 : most + 1;
            case 3: return oneIn(4) ? EDGES[upTo(EDGES.length - 1)] : least;
            default: return least + upTo(most - least);
        }
    }

    private int aPaper() {
        return oneIn(30) ? near(0, 6) : upTo((int) Math.max(0, model.call("count", 1) - 1));
    }

    private int aRow() {
        return oneIn(30) ? near(0, 7) : upTo(2);
    }

    private int[] arguments(String name) {
        switch (name) {
            case "row": return new int[] {aRow(), near(0, 2), oneIn(3) ? near(0, 40) : 3 + upTo(10)};
            case "set": return new int[] {aRow(), near(0, 14), oneIn(2) ? aPaper() : oneIn(2) ? 99 : random.nextInt()};
            case "copy": return new int[] {aRow(), near(0, 8), aRow(), near(0, 8), near(0, 8)};
            case "drop": return new int[] {aRow()};
            case "feed": return new int[] {near(0, 255)};
            case "noons": return new int[] {oneIn(4) ? near(1, 24) : 1 + upTo(3)};
            case "move": return new int[] {aPaper(), near(0, 9)};
            case "write": return new int[] {aPaper(), near(1, 9)};
            case "hide": case "kind": return new int[] {aPaper()};
            case "clock": return new int[] {near(0, 9)};
            case "paper": return new int[] {aPaper(), near(0, 4)};
            case "stand": return new int[] {near(0, 6)};
            case "ahead": case "spot": return new int[] {aPaper(), near(0, 60), near(0, 1)};
            case "bitten": return new int[] {near(1, 60), near(0, 1)};
            case "left": return new int[] {near(0, 60), near(0, 2)};
            case "when": case "ask": return new int[] {aPaper(), near(0, 1)};
            case "decoy": return new int[] {aPaper(), aPaper(), oneIn(2) ? near(1, 40) : 1 + upTo(5)};
            case "hides": return new int[] {near(1, 40), near(0, 1)};
            case "sets": return new int[] {near(0, 54), near(0, 2)};
            case "share": return new int[] {aPaper(), near(0, 999)};
            case "byTurns": return new int[] {near(0, 4), near(1, 20)};
            case "who": return new int[] {aPaper(), near(0, 3), aRow(), oneIn(4) ? near(0, 20) : 0, near(1, 12)};
            case "rain": return new int[] {aPaper(), near(0, 60), near(0, 10), near(0, 1)};
            case "drawn": return new int[] {near(0, 60), near(1, 999999), near(0, 1)};
            case "image": case "restore": return new int[] {near(0, 1)};
            case "as": return new int[] {aPaper(), near(0, 5)};
            case "trace": return new int[] {near(0, 8)};
            case "count": return new int[] {near(0, 7)};
            default: return new int[0];
        }
    }

    /** A row that tells what will come, or nearly so, and all asks by it. */
    private void askWho() {
        int n = 1 + upTo(11);
        call("row", 0, upTo(2), n + upTo(2));
        for (int k = 0; k < n; k++) {
            long whom = model.call("bitten", k + 1, 0);
            call("set", 0, k, oneIn(12) ? aPaper() : whom < 0 ? 99 : (int) whom);
        }
        int paper = aPaper();
        for (int which = 0; which < 4; which++) call("who", paper, which, 0, 0, 1 + upTo(n - 1));
    }

    private void lookAround() {
        for (int what = 0; what < 8; what++) call("count", what);
        for (int what = 0; what < 7; what++) call("stand", what);
        for (int p = 0; p < 6; p++) for (int what = 0; what < 5; what++) call("paper", p, what);
        for (int i = 0; i < 8; i++) call("trace", i);
        call("status");
        call("fault");
    }

    private boolean goes() {
        if (!oneIn(20)) tellSquare();
        for (int i = 0; i < CALLS && !wrong; i++) {
            String name = Calls.NAMES[upTo(Calls.NAMES.length - 1)];
            boolean wild = oneIn(25);
            int[] a = arguments(name);
            for (int k = 0; wild && k < a.length; k++) a[k] = EDGES[upTo(EDGES.length - 1)];
            if (name.equals("feed") && !oneIn(6)) continue;
            if (name.equals("square")) {
                if (oneIn(6)) tellSquare();
            } else if (name.equals("who") && oneIn(3)) {
                askWho();
            } else if (name.equals("ask")) {
                call(name, a);
                for (int k = 0; k < 8; k++) call("trace", k);
            } else {
                call(name, a);
            }
        }
        lookAround();
        return !wrong;
    }

    private static boolean longRun() {
        ModelTest t = new ModelTest(77);
        t.feedText("c5,2;s1,1,9;d3,0,9;b9,2,9;");
        for (int i = 0; i < 60; i++) {
            t.call("noons", 24);
            t.call("write", i % 3, 9);
            t.call("count", 2);
        }
        for (int n = 24; n > 0; n--) t.call("noons", n);
        t.lookAround();
        for (int i = 0; i < 26; i++) t.call("undo");
        t.lookAround();
        return t.end("the long run");
    }

    private boolean end(String name) {
        if (wrong) {
            System.out.println(name + ":");
            for (String s : told.subList(Math.max(0, told.size() - 60), told.size())) System.out.println("  " + s);
        }
        return !wrong;
    }

    public static void main(String[] args) {
        int failed = longRun() ? 0 : 1;
        for (int seed = 0; seed < RUNS && failed < 3; seed++) {
            ModelTest t = new ModelTest(seed);
            t.goes();
            if (!t.end("seed " + seed)) failed++;
        }
        System.out.println(failed == 0 ? "the class and the model agree" : "the class and the model differ");
        if (failed != 0) System.exit(1);
    }
}
