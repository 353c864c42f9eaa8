import java.util.Arrays;

/** The Terms' second part (noons, acts): each sentence with a boundary case has a test of its own. */
public final class EdgeNoonsTest {
    private static final long NONE = Driver.NONE, BAD = Driver.BAD, STATE = Driver.STATE;

    private static final Edges edges = new Edges();

    private EdgeNoonsTest() {
    }

    private static int[] of(int... a) {
        return a;
    }

    /** A new square, on which a noon at a time takes so many letters. */
    private static Driver behind(String text, int... lost) {
        Driver t = edges.driver(text);
        for (int n : lost) t.due(n, "noons", 1);
        return t;
    }

    private static void longsAre(Driver t, int... letters) {
        for (int p = 0; p < letters.length; p++) t.due(letters[p], "paper", p, 2);
    }

    private static void nameless() {
        edges.terms("A PAPER with no letters left (LONG 0) is NAMELESS.");
        Driver t = edges.driver("c0,1;d0,0,2;s9,9,1;");
        for (int[] due : new int[][] {of(1, 0, 0), of(1, 1, 1), of(1, 3, 2), of(0, 3, 2)}) {
            t.due(due[0], "noons", 1);
            t.due(due[1], "stand", 4);
            t.due(due[2], "count", 5);
        }
        longsAre(t, 0, 0);
        t.due(0, "write", 0, 1);
        t.due(2, "stand", 4);
    }

    private static void near() {
        edges.terms("NEAR of a PAPER: how far PLACE is from CLOCK, and LOW.");
        for (int clock = 0; clock <= 9; clock++) {
            for (int place = 0; place <= 9; place++) {
                Driver t = edges.driver("c" + clock + ",1;p" + place + ",0,1;p" + place + ",9,1;");
                int far = clock < place ? place - clock : clock - place;
                t.due(far, "paper", 0, 3);
                t.due(far + 9, "paper", 1, 3);
            }
        }
        edges.driver("c0,1;p9,0,1;p1,0,1;").due(1, "stand", 6);
        edges.driver("c9,1;p0,0,1;p8,0,1;").due(1, "stand", 6);
    }

    private static void rest() {
        edges.terms("A NOON: if REST is above 0, REST is 1 less, and nothing is bitten.");
        Driver t = edges.driver("c0,1;p0,0,9;s9,9,9;");
        t.due(9, "noons", 1);
        for (int rest = 4; rest >= 1; rest--) {
            t.due(rest, "stand", 3);
            t.due(NONE, "stand", 6);
            t.due(NONE, "bitten", 1, 0);
            t.due(0, "noons", 1);
            t.due(9, "paper", 1, 2);
        }
        t.due(0, "stand", 3);
        t.due(1, "stand", 6);
        t.due(1, "noons", 1);
    }

    private static void whoCanBeBitten() {
        edges.terms("Else of all PAPERS that are neither NAMELESS nor HIDDEN");
        Driver t = behind("c0,1;p0,0,1;p5,0,2;p9,9,3;", 1);
        t.due(1, "stand", 6);
        t.x.hide(1);
        t.due(2, "stand", 6);
        t.x.hide(1);
        t.due(2, "noons", 1);
        t.due(2, "stand", 6);
        t.x.write(0, 1);
        t.due(0, "stand", 6);

        edges.terms("(none: nothing is)");
        t.x.hide(0);
        t.x.hide(2);
        t.due(NONE, "stand", 6);
        t.due(0, "noons", 1);
        longsAre(t, 1, 0, 3);
        t = behind("c0,1;p0,0,1;", 1, 0, 0);
        t.due(NONE, "stand", 6);
        t.due(1, "count", 3);
        t.due(3, "count", 2);
    }

    private static void nearest() {
        edges.terms("the one of which NEAR is least, of several the one with most letters, then the first, is bitten");
        String[] squares = {"c5,1;p5,0,1;p6,0,9;", "c5,1;p6,0,9;p5,0,1;", "c5,1;p4,0,3;p6,0,4;p5,1,3;",
            "c5,1;p4,0,3;p6,0,3;p5,1,4;", "c5,1;p4,0,3;p6,0,3;p5,1,3;", "c5,1;p4,1,3;p6,0,3;p5,1,3;",
            "c5,1;p5,9,9;p5,8,1;p5,9,9;p5,8,1;p5,9,9;p5,8,2;", "c0,1;p0,9,1;p9,0,1;", "c0,1;p9,9,8;p9,9,9;p9,9,9;"};
        int[] due = {0, 1, 1, 2, 0, 1, 5, 0, 1};
        for (int i = 0; i < squares.length; i++) edges.driver(squares[i]).due(due[i], "stand", 6);
    }

    private static void plainOnes() {
        edges.terms("a plain one loses all its letters");
        for (int n = 1; n <= 9; n++) longsAre(behind("c0,1;p0,0," + n + ";", n), 0);
    }

    private static void latinOnes() {
        edges.terms("a Latin one so, but if they are odd it is spat out (it loses none,");
        for (int n = 1; n <= 9; n++) longsAre(behind("c0,1;l0,0," + n + ";", n % 2 == 0 ? n : 0), n % 2 == 0 ? 0 : n);
        Driver t = behind("c0,1;l0,0,9;", 0);
        t.due(0, "count", 3);
        t.due(0, "stand", 3);

        edges.terms("and goes to the next PLACE above, at 9 it stays)");
        for (int place = 0; place <= 9; place++) {
            t = behind("c0,1;l" + place + ",0,3;", 0);
            t.due(place < 9 ? place + 1 : 9, "paper", 0, 0);
            t = behind("c0,1;l" + place + ",0,2;", 2);
            t.due(place, "paper", 0, 0);
        }
        behind("c9,1;l7,0,1;", 0, 0, 0, 0).due(9, "paper", 0, 0);
    }

    private static void borrowedOnes() {
        edges.terms("of a borrowed one the next PAPER above it (0 above the last) that is not NAMELESS");
        longsAre(behind("c0,1;b0,0,1;p9,0,5;p9,0,5;", 1), 1, 4, 5);
        longsAre(behind("c0,1;p9,0,5;p9,0,5;b0,0,1;", 1), 4, 5, 1);
        longsAre(behind("c0,1;b9,0,5;p9,0,5;p9,0,5;p9,0,5;p9,0,5;b0,0,1;", 1), 4, 5, 5, 5, 5, 1);
        longsAre(behind("c0,1;b0,1,1;p0,0,5;p9,0,5;", 5, 1), 1, 0, 4);
        longsAre(behind("c0,1;p0,0,5;p9,0,5;b0,1,1;", 5, 1), 0, 4, 1);
        longsAre(behind("c0,1;p9,0,5;b0,1,1;p0,0,5;", 5, 1), 4, 1, 0);
        Driver t = edges.driver("c0,1;b0,0,1;p9,0,5;p9,0,5;");
        t.x.hide(1);
        t.due(1, "noons", 1);
        longsAre(t, 1, 4, 5);

        edges.terms("loses so many letters as the borrowed one has, all it has at most, in its place");
        longsAre(behind("c0,1;b0,0,4;p9,0,5;", 4), 4, 1);
        longsAre(behind("c0,1;b0,0,5;p9,0,5;", 5), 5, 0);
        longsAre(behind("c0,1;b0,0,6;p9,0,5;", 5), 6, 0);
        longsAre(behind("c0,1;b0,0,1;l9,0,5;", 1), 1, 4);
        longsAre(behind("c0,1;b0,0,9;s9,0,9;", 9), 9, 0);
        longsAre(behind("c0,1;b0,0,2;d9,0,9;", 2), 2, 7);
        longsAre(behind("c0,1;b0,0,2;b9,0,9;p9,0,9;", 2), 2, 7, 9);

        edges.terms("(it itself, if there is no other one)");
        longsAre(behind("c0,1;b0,0,9;", 9), 0);
        longsAre(behind("c0,1;b0,1,3;p0,0,4;", 4, 3), 0, 0);
        longsAre(behind("c0,1;p0,0,4;p0,0,4;b0,1,3;", 4, 4, 3), 0, 0, 0);
    }

    private static void doubleOnes() {
        edges.terms("a double one loses half of its letters (rounded up)");
        for (int n = 1; n <= 9; n++) longsAre(behind("c0,1;d0,0," + n + ";", n - n / 2), n / 2);

        edges.terms("that of a street loses as a double one does, but 1 at most.");
        for (int n = 1; n <= 9; n++) longsAre(behind("c0,1;s0,0," + n + ";", 1), n - 1);
        behind("c0,1;s0,0,2;", 1, 1, 0);
    }

    private static void whatFollows() {
        edges.terms("EATEN is more by what was lost, REST is what was lost less 5, 0 at least.");
        for (int n = 1; n <= 9; n++) {
            Driver t = behind("c0,1;p0,0," + n + ";", n);
            t.due(n, "count", 3);
            t.due(n > 5 ? n - 5 : 0, "stand", 3);
        }
        Driver t = behind("c0,1;b0,0,9;p9,0,7;", 7);
        t.due(7, "count", 3);
        t.due(2, "stand", 3);
        t = behind("c0,1;p0,0,4;p0,0,5;", 5, 4);
        t.due(9, "count", 3);
        t.due(0, "stand", 3);

        edges.terms("Then CLOCK goes on by DRIFT (from 0 down it goes to 9, from 9 up to 0).");
        for (int clock = 0; clock <= 9; clock++) {
            int[] due = {clock == 0 ? 9 : clock - 1, clock, clock == 9 ? 0 : clock + 1};
            for (int drift = 0; drift <= 2; drift++) {
                t = edges.driver("c" + clock + "," + drift + ";s0,0,9;");
                t.due(1, "noons", 1);
                t.due(due[drift], "stand", 1);
                t.due(due[drift], "paper", 0, 3);
            }
        }

        edges.terms("NOON is 1 more (CLOCK goes on also when nothing is bitten).");
        t = edges.driver("c9,2;p0,0,9;l9,0,3;");
        t.x.hide(1);
        int[] lost = {9, 0, 0, 0, 0, 0, 0};
        for (int noon = 1; noon <= lost.length; noon++) {
            t.due(lost[noon - 1], "noons", 1);
            t.due(noon, "count", 2);
            t.due(noon - 1, "stand", 1);
        }
        t = edges.driver("c0,0;p0,0,1;");
        t.x.hide(0);
        t.due(0, "noons", 1);
        t.due(9, "stand", 1);
        t.due(1, "count", 2);
    }

    // ---- acts

    private static void keptActs() {
        edges.terms("ACTS (24 at most are kept, of more the oldest is forgotten;");
        Driver t = edges.driver("c0,1;p0,0,1;");
        for (int act = 1; act <= 30; act++) {
            t.x.write(0, act % 9 + 1);
            t.due(Math.min(act, 24), "count", 6);
        }
        for (int act = 29; act >= 6; act--) {
            t.due(act - 6, "undo");
            t.due(act % 9 + 1, "paper", 0, 2);
        }
        t.due(STATE, "undo");
        t.due(6 % 9 + 1, "paper", 0, 2);
        for (int acts : of(1, 23, 24, 25)) {
            t = edges.driver("c0,1;s0,0,1;");
            for (int act = 0; act < acts; act++) t.x.hide(0);
            for (int left = Math.min(acts, 24) - 1; left >= 0; left--) t.due(left, "undo");
            t.due(STATE, "undo");
            t.due(acts == 25 ? 1 : 0, "paper", 0, 4);
        }
    }

    private static void undone() {
        edges.terms("each can be undone, the latest first): a NOON; a PAPER is moved to a PLACE; it is written anew (LONG); "
            + "it is HIDDEN, or shown again; CLOCK is turned to a PLACE.");
        Driver t = edges.driver("c9,2;l8,0,3;p9,9,9;b0,0,6;");
        String[] names = {"noons", "move", "write", "hide", "clock", "hide", "noons", "noons", "write", "noons", "noons"};
        int[][] numbers = {of(1), of(0, 0), of(0, 2), of(2), of(5), of(2), of(1), of(1), of(0, 2), of(1), of(1)};
        String[] before = new String[names.length];
        for (int i = 0; i < names.length; i++) {
            before[i] = t.look();
            edges.check.holds(names[i] + Arrays.toString(numbers[i]) + " is an act", t.call(names[i], numbers[i]) > BAD);
            edges.check.holds(names[i] + " changes what is seen", !before[i].equals(t.look()));
        }
        for (int i = names.length - 1; i >= 0; i--) {
            t.due(i, "undo");
            edges.check.same("behind undo of " + names[i], t.look(), before[i]);
        }
        t.due(STATE, "undo");
    }

    public static void main(String[] args) {
        nameless();
        near();
        rest();
        whoCanBeBitten();
        nearest();
        plainOnes();
        latinOnes();
        borrowedOnes();
        doubleOnes();
        whatFollows();
        keptActs();
        undone();
        edges.end();
    }
}
