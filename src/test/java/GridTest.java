import java.util.ArrayList;
import java.util.Arrays;
import java.util.List;
import java.util.Set;

/**
 * Every call at, next to and far beyond the ends of all its numbers, in states that are at an end themselves: the answer
 * is the model's, and what is refused, found or foretold leaves an object of which all later answers are the same.
 */
public final class GridTest {
    private static final int MIN = Integer.MIN_VALUE, MAX = Integer.MAX_VALUE;
    private static final String SIX = "c9,2;p9,1,6;l8,0,7;b0,2,5;d6,1,9;s4,4,8;p0,9,2;";
    private static final String EATEN = "c9,2;p9,1,6;l8,0,6;p0,2,5;d6,1,9;s4,4,8;p0,9,2;";
    private static final String[] STATES = {"new", "told", "amid", "hidden", "nameless", "at 999", "one", "full tape"};
    private static final Set<String> CHANGING = Set.of("row", "set", "copy", "drop", "feed", "square", "undo", "noons",
        "move", "write", "hide", "clock", "image", "restore", "ask");
    private static final Set<String> WITH_FINDINGS = Set.of("row", "set", "copy", "drop", "who", "as");
    private static final int CALLS_OF_ONE = 250;

    private static final Edges edges = new Edges();

    private final List<Object[]> run = new ArrayList<>();
    private final String state;
    private String due = "";

    private GridTest(String state) {
        this.state = state;
        build();
        due = later(made());
        atTheEnd();
    }

    /** That the state is what its name says. */
    private void atTheEnd() {
        NameNoon x = made();
        edges.check.holds("new: no square", !state.equals("new") || x.count(1) == 0);
        edges.check.holds("told: no act", !state.equals("told") || x.count(1) == 6 && x.count(6) == 0);
        edges.check.holds("hidden: all are", !state.equals("hidden") || x.stand(5) == 63);
        edges.check.holds("nameless: all are", !state.equals("nameless") || x.stand(4) == 63 && x.count(6) == 24);
        edges.check.holds("at 999: the last noon", !state.equals("at 999") || x.count(2) == 999);
        edges.check.holds("one: one paper", !state.equals("one") || x.count(1) == 1);
        edges.check.holds("full tape: 90 bytes", !state.equals("full tape") || x.count(7) == 90);
    }

    // ---- the states, as runs of calls

    private void add(String name, int... a) {
        run.add(new Object[] {name, a});
    }

    private void addText(String text) {
        for (char c : text.toCharArray()) add("feed", c);
    }

    private void build() {
        if (state.equals("new")) return;
        add("square");
        addText(state.equals("one") ? "c0,0;b0,0,9;" : state.equals("nameless") ? EATEN : SIX);
        add("square");
        if (state.equals("told")) return;
        for (int row = 0; row < 3; row++) add("row", row, row / 2, 10 + 2 * row);
        for (int i = 0; i < 10; i++) add("set", i % 3, i, i % 4 == 0 ? 99 : i % 5);
        add("image", 0);
        add("noons", 2);
        if (state.equals("hidden")) for (int p = 0; p < 6; p++) add("hide", p);
        if (state.equals("nameless")) add("noons", 24);
        if (state.equals("nameless")) add("noons", 24);
        if (state.equals("at 999")) for (int i = 0; i < 42; i++) add("noons", i < 41 ? 24 : 13);
        add("image", 1);
        add("move", 0, 3);
        if (!state.equals("nameless")) add("write", 0, 4);
        add("ask", 0, 0);
        add("set", 0, 40, 0);
        if (state.equals("full tape")) addText("c0,1;p0,0,1;" + "s5,5,5;".repeat(11) + "p");
        else addText("c0,1;p0,0,1;");
    }

    private NameNoon made() {
        NameNoon x = new NameNoon();
        for (Object[] call : run) Calls.call(x, (String) call[0], (int[]) call[1]);
        return x;
    }

    private Model model() {
        Model m = new Model();
        for (Object[] call : run) m.call((String) call[0], (int[]) call[1]);
        return m;
    }

    // ---- all that can be seen of an object later on, but for status()

    private static void look(NameNoon x, StringBuilder s) {
        for (int what = 0; what < 8; what++) s.append(x.count(what)).append(' ');
        for (int what = 1; what < 6; what++) s.append(x.stand(what)).append(' ');
        for (int p = 0; p < x.count(1); p++) {
            for (int what = 0; what < 3; what++) s.append(x.paper(p, what)).append(' ');
        }
        s.append('\n');
    }

    /** Leaves the object in another state. */
    private static String later(NameNoon x) {
        StringBuilder s = new StringBuilder();
        look(x, s);
        for (int i = 0; i < 7; i++) s.append(x.trace(i)).append(' ');
        s.append(x.fault()).append('\n');
        for (int row = 0; row < 3; row++) {
            for (int i = 0; i < 11; i++) s.append(x.who(0, 3, row, i, 1)).append(' ');
            s.append(x.drop(row)).append('\n');
        }
        for (int i = 0; i < 25; i++) {
            s.append(x.undo()).append(' ');
            if (i % 12 == 0) look(x, s);
        }
        look(x, s);
        for (int k = 0; k < 2; k++) {
            s.append(x.restore(k));
            look(x, s);
        }
        s.append(x.square());
        look(x, s);
        return s.toString();
    }

    // ---- the numbers of each call

    private static int[] of(int... a) {
        return a;
    }

    private static int[] around(int least, int most) {
        int[] all = {MIN, least - 2, least - 1, least, least + 1, (least + most) / 2, most - 1, most, most + 1, most + 2, MAX};
        return Arrays.stream(all).sorted().distinct().toArray();
    }

    private static int[][] numbers(String name) {
        int[] papers = around(0, 5), rows = of(MIN, -1, 0, 1, 2, 3, 7, 8, MAX), what = of(-1, 0, 1, 2);
        switch (name) {
            case "row": return new int[][] {rows, around(0, 2), around(0, 40)};
            case "set": return new int[][] {rows, of(MIN, -1, 0, 1, 9, 10, 13, 14, MAX), of(MIN, -129, 0, 127, 32768, MAX)};
            case "copy": return new int[][] {of(-1, 0, 1, 2, 7, 8), of(-1, 0, 3, 10, MAX), of(-1, 0, 1, 2, 7, 8),
                of(MIN, 0, 2, 10, 12), of(-1, 0, 1, 7, 10, 11, MAX)};
            case "drop": return new int[][] {rows};
            case "feed": return new int[][] {around(0, 255)};
            case "noons": return new int[][] {around(1, 24)};
            case "move": return new int[][] {papers, around(0, 9)};
            case "write": return new int[][] {papers, around(1, 9)};
            case "hide": case "kind": return new int[][] {papers};
            case "clock": return new int[][] {around(0, 9)};
            case "paper": return new int[][] {papers, around(0, 4)};
            case "stand": return new int[][] {around(0, 6)};
            case "ahead": return new int[][] {papers, around(0, 60), what};
            case "bitten": return new int[][] {around(1, 60), what};
            case "left": return new int[][] {around(0, 60), around(0, 2)};
            case "when": case "ask": return new int[][] {papers, what};
            case "spot": return new int[][] {papers, around(1, 60), what};
            default: return laterNumbers(name, papers, what);
        }
    }

    private static int[][] laterNumbers(String name, int[] papers, int[] what) {
        switch (name) {
            case "decoy": return new int[][] {papers, papers, around(1, 40)};
            case "hides": return new int[][] {around(1, 40), what};
            case "sets": return new int[][] {around(0, 54), around(0, 2)};
            case "share": return new int[][] {papers, around(0, 999)};
            case "byTurns": return new int[][] {around(0, 4), around(1, 20)};
            case "who": return new int[][] {of(-1, 0, 5, 6), of(-1, 0, 1, 2, 3, 4), of(-1, 0, 2, 7, 8), of(-1, 0, 1, 10, MAX),
                of(0, 1, 2, 12, 13)};
            case "rain": return new int[][] {of(-1, 0, 1, 5, 6), of(-1, 0, 1, 59, 60, 61), of(-1, 0, 1, 5, 9, 10, 11), what};
            case "drawn": return new int[][] {around(0, 60), around(1, 999999), what};
            case "image": case "restore": return new int[][] {around(0, 1)};
            case "as": return new int[][] {papers, around(0, 5)};
            case "trace": return new int[][] {around(0, 15)};
            case "count": return new int[][] {around(0, 7)};
            default: return new int[0][];
        }
    }

    // ---- the test

    private void goOver(String name) {
        int[][] numbers = numbers(name);
        int[] at = new int[numbers.length];
        NameNoon kept = made();
        Model model = model();
        int calls = 0;
        for (boolean more = true; more; more = next(at, numbers)) {
            int[] a = new int[at.length];
            for (int k = 0; k < at.length; k++) a[k] = numbers[k][at[k]];
            if (CHANGING.contains(name) || calls++ % CALLS_OF_ONE == 0) {
                kept = made();
                model = model();
            }
            long answer = Calls.call(kept, name, a);
            String call = state + ": " + name + Arrays.toString(a);
            edges.check.due(call, answer, model.call(name, a));
            boolean refused = answer < Model.NONE && !name.equals("square");
            if (refused || !CHANGING.contains(name) && calls % 7 == 0) unchanged(call, name, a);
        }
    }

    private static boolean next(int[] at, int[][] numbers) {
        for (int k = 0; k < at.length; k++) {
            if (++at[k] < numbers[k].length) return true;
            at[k] = 0;
        }
        return false;
    }

    private void unchanged(String call, String name, int[] a) {
        NameNoon x = made();
        int before = x.status();
        long answer = Calls.call(x, name, a);
        boolean found = answer <= -1000011 && answer >= -1000015;
        boolean none = WITH_FINDINGS.contains(name) && answer >= Model.NONE;
        edges.check.due("status() behind " + call, x.status(), found ? -1000010 - answer : none ? 0 : before);
        edges.check.same("what is seen behind " + call, later(x), due);
    }

    public static void main(String[] args) {
        edges.terms("What is refused, or found, changes nothing but status().");
        for (String state : STATES) {
            GridTest t = new GridTest(state);
            for (String name : Calls.NAMES) t.goOver(name);
        }
        edges.end();
    }
}
