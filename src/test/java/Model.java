import java.util.ArrayList;
import java.util.Arrays;
import java.util.LinkedList;
import java.util.List;
import java.util.regex.Matcher;
import java.util.regex.Pattern;

/**
 * A second telling of the document, written apart from the class and in another way (papers with bodies of
 * their own, copies of whole squares, rows that are real arrays), so that a slip in one does not hide in the other.
 */
final class Model {
    static final long NONE = -1000000, BAD = -1000001, STATE = -1000002, FULL = -1000003;

    private static final class Refused extends RuntimeException {
        private static final long serialVersionUID = 1;
        final long answer;

        Refused(long answer) {
            super(null, null, false, false);
            this.answer = answer;
        }
    }

    abstract static class Paper implements Cloneable {
        int number, place, low, letters;
        boolean hidden;

        Paper copy() {
            try {
                return (Paper) clone();
            } catch (CloneNotSupportedException e) {
                throw new AssertionError(e);
            }
        }

        int lose(int n) {
            int lost = Math.min(n, letters);
            letters -= lost;
            return lost;
        }

        abstract int bitten(Town town);

        int size(List<Integer> trace) {
            trace.add(10);
            return letters;
        }

        int mark(List<Integer> trace) {
            trace.add(20);
            return number;
        }
    }

    static class Plain extends Paper {
        @Override int bitten(Town town) {
            return lose(letters);
        }

        @Override int size(List<Integer> trace) {
            trace.add(11);
            int lent = super.size(trace);
            return lent + mark(trace);
        }

        @Override int mark(List<Integer> trace) {
            trace.add(21);
            return super.mark(trace) + place;
        }
    }

    static final class Latin extends Plain {
        @Override int bitten(Town town) {
            if (letters % 2 == 0) return super.bitten(town);
            if (place < 9) place++;
            return 0;
        }

        @Override int size(List<Integer> trace) {
            trace.add(12);
            return -super.size(trace);
        }

        @Override int mark(List<Integer> trace) {
            trace.add(24);
            return 2 * super.mark(trace);
        }
    }

    static final class Borrowed extends Plain {
        @Override int bitten(Town town) {
            List<Paper> round = new ArrayList<>(town.papers.subList(number + 1, town.papers.size()));
            round.addAll(town.papers.subList(0, number));
            round.add(this);
            for (Paper p : round) if (p.letters > 0) return p.lose(letters);
            throw new AssertionError("a nameless one was bitten");
        }

        @Override int mark(List<Integer> trace) {
            trace.add(22);
            return super.mark(trace) - 1000;
        }
    }

    static class Twofold extends Paper {
        @Override int bitten(Town town) {
            return lose(letters - letters / 2);
        }

        @Override int size(List<Integer> trace) {
            trace.add(13);
            return super.size(trace) - 100;
        }

        @Override int mark(List<Integer> trace) {
            trace.add(23);
            int lent = super.mark(trace);
            return lent - size(trace);
        }
    }

    static final class Street extends Twofold {
        @Override int bitten(Town town) {
            return lose(1);
        }

        @Override int size(List<Integer> trace) {
            trace.add(14);
            return 2 * super.size(trace);
        }
    }

    private static final Class<?>[] KINDS =
        {Paper.class, Plain.class, Latin.class, Borrowed.class, Twofold.class, Street.class};

    private static Paper made(int kind) {
        switch (kind) {
            case 1: return new Plain();
            case 2: return new Latin();
            case 3: return new Borrowed();
            case 4: return new Twofold();
            case 5: return new Street();
            default: throw new AssertionError(kind);
        }
    }

    static final class Town {
        final List<Paper> papers = new ArrayList<>();
        int clock, drift, rest, eaten, noon;
        int whom, lost;

        Town copy() {
            Town t = new Town();
            for (Paper p : papers) t.papers.add(p.copy());
            t.clock = clock;
            t.drift = drift;
            t.rest = rest;
            t.eaten = eaten;
            t.noon = noon;
            return t;
        }

        void recast(int number, int kind) {
            Paper old = papers.get(number), p = made(kind);
            p.number = number;
            p.place = old.place;
            p.low = old.low;
            p.letters = old.letters;
            p.hidden = old.hidden;
            papers.set(number, p);
        }

        int near(Paper p) {
            return (p.place > clock ? p.place - clock : clock - p.place) + p.low;
        }

        /** By one great number for each: nearer first, then more letters, then the first. */
        Paper next() {
            if (rest > 0) return null;
            return papers.stream().filter(p -> p.letters > 0 && !p.hidden)
                .min((a, b) -> Integer.compare(near(a) * 10000 - a.letters * 100 + a.number,
                                               near(b) * 10000 - b.letters * 100 + b.number)).orElse(null);
        }

        Town noon() {
            Paper p = next();
            whom = p == null ? -1 : p.number;
            lost = 0;
            if (rest > 0) {
                rest--;
            } else {
                if (p != null) lost = p.bitten(this);
                eaten += lost;
                rest = lost > 5 ? lost - 5 : 0;
            }
            clock = (clock + new int[] {9, 0, 1}[drift]) % 10;
            noon++;
            return this;
        }

        Town after(int n) {
            Town t = copy();
            for (int i = 0; i < n; i++) t.noon();
            return t;
        }

        int letters() {
            return papers.stream().mapToInt(p -> p.letters).sum();
        }

        int nameless() {
            return papers.stream().filter(p -> p.letters == 0).mapToInt(p -> 1 << p.number).sum();
        }

        int hidden() {
            return papers.stream().filter(p -> p.hidden).mapToInt(p -> 1 << p.number).sum();
        }
    }

    private final Object[] rows = new Object[8];
    private final StringBuilder tape = new StringBuilder();
    private final LinkedList<Town> acts = new LinkedList<>();
    private final Town[] images = new Town[2];
    private final List<Integer> trace = new ArrayList<>();
    private Town town;
    private int fault, status;

    long call(String name, int... a) {
        try {
            boolean withRow = List.of("row", "set", "copy", "drop", "who", "as").contains(name);
            long answer = answer(name, a);
            if (withRow) status = 0;
            return answer;
        } catch (Refused r) {
            if (r.answer < -1000010 && r.answer > -1000016) status = (int) (-1000010 - r.answer);
            return r.answer;
        }
    }

    private static void bad(boolean ifso) {
        if (ifso) throw new Refused(BAD);
    }

    private static void out(int v, int least, int most) {
        bad(v < least || v > most);
    }

    private void told() {
        if (town == null) throw new Refused(STATE);
    }

    private Paper one(int p) {
        bad(town == null || p < 0 || p >= town.papers.size());
        return town.papers.get(p);
    }

    private static Refused finding(int n) {
        return new Refused(-1000010 - n);
    }

    private Object present(int row) {
        if (rows[row] == null) throw finding(1);
        return rows[row];
    }

    private void act() {
        acts.addLast(town.copy());
        if (acts.size() > 24) acts.removeFirst();
    }

    private long answer(String name, int[] a) {
        switch (name) {
            case "row": case "set": case "copy": case "drop": return ofRows(name, a);
            case "feed": case "square": case "fault": case "undo": return told(name, a);
            case "noons": case "move": case "write": case "hide": case "clock": case "paper": case "stand":
                return done(name, a);
            case "spot": case "decoy": case "hides": case "sets": case "share": case "byTurns": case "who":
            case "rain": case "drawn": return sought(name, a);
            case "ahead": case "bitten": case "left": case "when": case "over": return foretold(name, a);
            default: return asked(name, a);
        }
    }

    private long ofRows(String name, int[] a) {
        out(a[0], 0, 7);
        switch (name) {
            case "row":
                out(a[1], 0, 2);
                bad(a[2] > 40);
                try {
                    rows[a[0]] = a[1] == 0 ? new byte[a[2]] : a[1] == 1 ? new short[a[2]] : (Object) new int[a[2]];
                } catch (NegativeArraySizeException e) {
                    throw finding(4);
                }
                return a[2];
            case "set":
                Object r = present(a[0]);
                try {
                    if (r instanceof byte[]) return ((byte[]) r)[a[1]] = (byte) a[2];
                    if (r instanceof short[]) return ((short[]) r)[a[1]] = (short) a[2];
                    return ((int[]) r)[a[1]] = a[2];
                } catch (ArrayIndexOutOfBoundsException e) {
                    throw finding(2);
                }
            case "copy":
                out(a[2], 0, 7);
                try {
                    System.arraycopy(rows[a[0]], a[1], rows[a[2]], a[3], a[4]);
                } catch (NullPointerException e) {
                    throw finding(1);
                } catch (ArrayStoreException e) {
                    throw finding(5);
                } catch (IndexOutOfBoundsException e) {
                    throw finding(2);
                }
                return a[4];
            default:
                int had = java.lang.reflect.Array.getLength(present(a[0]));
                rows[a[0]] = null;
                return had;
        }
    }

    private long told(String name, int[] a) {
        switch (name) {
            case "feed":
                out(a[0], 0, 255);
                if (tape.length() == 90) throw new Refused(FULL);
                return tape.append((char) a[0]).length();
            case "square":
                String text = tape.toString();
                tape.setLength(0);
                Town t = new Town();
                int at = faultIn(text, t);
                if (at >= 0) throw new Refused(-1000100 - at);
                town = t;
                acts.clear();
                return t.papers.size();
            case "fault":
                return fault;
            default:
                if (acts.isEmpty()) throw new Refused(STATE);
                town = acts.removeLast();
                return acts.size();
        }
    }

    private static final Pattern TOKEN = Pattern.compile("[a-z,;]|[0-9]+|(?s).");

    /** The place of the first fault; -1: none. What may come next is told by how many tokens have come. */
    private int faultIn(String text, Town t) {
        Matcher m = TOKEN.matcher(text);
        int n = 0;
        List<Integer> numbers = new ArrayList<>();
        int kind = 0;
        while (m.find()) {
            String token = m.group();
            String form = n < 5 ? "c9,2;" : "k9,9,1;";
            char due = form.charAt(n < 5 ? n : (n - 5) % 7);
            if (Character.isDigit(due)) {
                if (!token.matches("[0-9]{1,2}")) return faulty(1, m.start());
                int v = Integer.parseInt(token);
                if (v > (due == '2' ? 2 : 9) || due == '1' && v == 0) return faulty(2, m.start());
                numbers.add(v);
            } else if (due == 'k') {
                if (!token.matches("[plbds]")) return faulty(1, m.start());
                if (t.papers.size() == 6) return faulty(3, m.start());
                kind = "plbds".indexOf(token) + 1;
                numbers.clear();
            } else if (token.length() != 1 || token.charAt(0) != due) {
                return faulty(1, m.start());
            }
            if (due == ';' && n < 5) {
                t.clock = numbers.get(0);
                t.drift = numbers.get(1);
            } else if (due == ';') {
                Paper p = made(kind);
                p.number = t.papers.size();
                p.place = numbers.get(0);
                p.low = numbers.get(1);
                p.letters = numbers.get(2);
                t.papers.add(p);
            }
            n++;
        }
        return n >= 12 && (n - 5) % 7 == 0 ? -1 : faulty(1, text.length());
    }

    private int faulty(int what, int at) {
        fault = what;
        return at;
    }

    private long done(String name, int[] a) {
        if (List.of("noons", "clock", "stand").contains(name)) told();
        int before;
        switch (name) {
            case "noons":
                out(a[0], 1, 24);
                if (town.noon + a[0] > 999) throw new Refused(FULL);
                int lost = 0;
                for (int i = 0; i < a[0]; i++) {
                    act();
                    lost += town.noon().lost;
                }
                return lost;
            case "move":
                before = one(a[0]).place;
                out(a[1], 0, 9);
                if (before == a[1]) throw new Refused(STATE);
                act();
                one(a[0]).place = a[1];
                return before;
            case "write":
                before = one(a[0]).letters;
                out(a[1], 1, 9);
                act();
                one(a[0]).letters = a[1];
                return before;
            case "hide":
                one(a[0]);
                act();
                one(a[0]).hidden = !one(a[0]).hidden;
                return one(a[0]).hidden ? 1 : 0;
            case "clock":
                out(a[0], 0, 9);
                before = town.clock;
                if (before == a[0]) throw new Refused(STATE);
                act();
                town.clock = a[0];
                return before;
            case "paper":
                Paper p = one(a[0]);
                out(a[1], 0, 4);
                return new int[] {p.place, p.low, p.letters, town.near(p), p.hidden ? 1 : 0}[a[1]];
            default:
                out(a[0], 0, 6);
                Paper next = town.next();
                return new long[] {town.papers.size(), town.clock, town.drift, town.rest, town.nameless(),
                    town.hidden(), next == null ? NONE : next.number}[a[0]];
        }
    }

    private long foretold(String name, int[] a) {
        if (List.of("bitten", "left", "over").contains(name)) told();
        switch (name) {
            case "ahead":
                one(a[0]);
                out(a[1], 0, 60);
                out(a[2], 0, 1);
                Paper p = town.after(a[1]).papers.get(a[0]);
                return a[2] == 0 ? p.letters : p.place;
            case "bitten":
                out(a[0], 1, 60);
                out(a[1], 0, 1);
                Town t = town.after(a[0]);
                return a[1] == 1 ? t.lost : t.whom < 0 ? NONE : t.whom;
            case "left":
                out(a[0], 0, 60);
                out(a[1], 0, 2);
                Town u = town.after(a[0]);
                return a[1] == 0 ? u.letters() : a[1] == 1 ? u.nameless() : u.clock;
            case "when":
                one(a[0]);
                out(a[1], 0, 1);
                for (int n = a[1] == 0 ? 1 : 0; n <= 60; n++) {
                    Town v = town.after(n);
                    if (a[1] == 0 ? v.whom == a[0] : v.papers.get(a[0]).letters == 0) return n;
                }
                return NONE;
            default:
                for (int n = 0; n <= 60; n++) if (town.after(n).letters() == 0) return n;
                return NONE;
        }
    }

    private long sought(String name, int[] a) {
        if (List.of("hides", "sets", "byTurns", "drawn").contains(name)) told();
        switch (name) {
            case "spot": return spot(a);
            case "decoy": return decoy(a);
            case "hides": return hides(a);
            case "sets": return sets(a);
            case "share": return share(a);
            case "byTurns":
                out(a[0], 0, 4);
                out(a[1], 1, 20);
                return turns(town, a[0], a[1], true);
            case "who": return who(a);
            case "rain": return rain(a);
            default: return drawn(a);
        }
    }

    private long spot(int[] a) {
        one(a[0]);
        out(a[1], 1, 60);
        out(a[2], 0, 1);
        int[] by = new int[10];
        for (int place = 0; place < 10; place++) {
            Town t = town.copy();
            t.papers.get(a[0]).place = place;
            by[place] = t.after(a[1]).papers.get(a[0]).letters;
        }
        int most = Arrays.stream(by).max().getAsInt();
        int which = 0;
        while (by[which] < most) which++;
        return a[2] == 0 ? which : most;
    }

    private long decoy(int[] a) {
        one(a[0]);
        one(a[1]);
        bad(a[0] == a[1]);
        out(a[2], 1, 40);
        for (int v = 1; v <= 9; v++) {
            Town t = town.copy();
            t.papers.get(a[0]).letters = v;
            if (t.after(a[2]).papers.get(a[1]).letters == one(a[1]).letters) return v;
        }
        return NONE;
    }

    private long hides(int[] a) {
        out(a[0], 1, 40);
        out(a[1], 0, 1);
        for (int many = 0; many <= town.papers.size(); many++) {
            for (int set = 0; set < 1 << town.papers.size(); set++) {
                if (Integer.bitCount(set) == many && saves(set, a[0])) return a[1] == 0 ? many : set;
            }
        }
        throw new AssertionError("all hidden, and yet one lost letters");
    }

    private boolean saves(int set, int n) {
        Town t = town.copy();
        for (Paper p : t.papers) p.hidden = (set & 1 << p.number) != 0;
        for (int i = 0; i < n; i++) {
            Town before = t.copy();
            t.noon();
            for (Paper p : t.papers) {
                boolean lost = p.letters < before.papers.get(p.number).letters;
                if (lost && !p.hidden && !(p instanceof Street)) return false;
            }
        }
        return true;
    }

    private long sets(int[] a) {
        out(a[0], 0, 54);
        out(a[1], 0, 2);
        List<Integer> fit = new ArrayList<>();
        setsFrom(0, a[0], 0, fit);
        if (a[1] == 0) return fit.size();
        if (fit.isEmpty()) return 0;
        return a[1] == 1 ? fit.stream().reduce((x, y) -> x & y).get() : fit.stream().reduce((x, y) -> x | y).get();
    }

    private void setsFrom(int p, int v, int set, List<Integer> fit) {
        if (p == town.papers.size()) {
            if (v == 0) fit.add(set);
            return;
        }
        setsFrom(p + 1, v, set, fit);
        if (one(p).letters > 0) setsFrom(p + 1, v - one(p).letters, set | 1 << p, fit);
    }

    private long share(int[] a) {
        one(a[0]);
        out(a[1], 0, 999);
        int all = town.letters();
        if (all == 0) return 0;
        int[] gets = town.papers.stream().mapToInt(p -> a[1] * p.letters / all).toArray();
        int over = a[1] - Arrays.stream(gets).sum();
        for (Paper p : town.papers) {
            if (p.letters > 0 && over > 0) {
                gets[p.number]++;
                over--;
            }
        }
        if (over != 0) throw new AssertionError("ink is over");
        return gets[a[0]];
    }

    private static long turns(Town t, int n, int m, boolean debtor) {
        int last = t.papers.size() - 1;
        if (n == 0) {
            Town end = t.after(m);
            return end.papers.get(0).letters - end.papers.get(last).letters;
        }
        List<Long> all = new ArrayList<>();
        for (int step : new int[] {0, -1, 1}) {
            Town next = t.copy();
            Paper p = next.papers.get(debtor ? 0 : last);
            p.place += step;
            if (p.place >= 0 && p.place <= 9) all.add(turns(next, n - 1, m, !debtor));
        }
        all.sort(null);
        return debtor ? all.get(all.size() - 1) : all.get(0);
    }

    private long who(int[] a) {
        one(a[0]);
        out(a[1], 0, 3);
        out(a[2], 0, 7);
        out(a[4], 1, 12);
        Object row = present(a[2]);
        int[] items = new int[a[4]];
        try {
            for (int k = 0; k < a[4]; k++) items[k] = java.lang.reflect.Array.getInt(row, Math.addExact(a[3], k));
        } catch (ArrayIndexOutOfBoundsException | ArithmeticException e) {
            throw finding(2);
        }
        long bits = 0;
        for (int v = 0; v < 10; v++) {
            if (a[1] % 2 == 0 && v == 0 || a[1] == 0 && v > 5) continue;
            Town t = town.copy();
            if (a[1] == 0) t.recast(a[0], v);
            if (a[1] == 1) t.papers.get(a[0]).place = v;
            if (a[1] == 2) t.papers.get(a[0]).letters = v;
            if (a[1] == 3) t.clock = v;
            boolean fits = true;
            for (int k = 0; k < a[4]; k++) {
                int whom = t.noon().whom;
                fits &= items[k] == (whom < 0 ? 99 : whom);
            }
            if (fits) bits += 1L << v;
        }
        return bits;
    }

    private long rain(int[] a) {
        one(a[0]);
        out(a[1], 0, 60);
        out(a[2], 0, 10);
        out(a[3], 0, 1);
        java.math.BigInteger above = java.math.BigInteger.valueOf(rained(town.copy(), 0, a));
        java.math.BigInteger below = java.math.BigInteger.valueOf(1);
        for (Paper p : town.papers) if (!p.hidden) below = below.multiply(java.math.BigInteger.TEN);
        java.math.BigInteger common = above.gcd(below);
        return (a[3] == 0 ? above : below).divide(common).longValueExact();
    }

    /** Of the papers from p on, each in turn: p of 10 cases hidden, the others not. */
    private static long rained(Town t, int p, int[] a) {
        if (p == t.papers.size()) return t.after(a[1]).papers.get(a[0]).letters > 0 ? 1 : 0;
        if (t.papers.get(p).hidden) return rained(t, p + 1, a);
        long dry = rained(t.copy(), p + 1, a);
        Town wet = t.copy();
        wet.papers.get(p).hidden = true;
        // papers ahead of p have been settled, so the mark of being hidden cannot be met again
        return (10 - a[2]) * dry + a[2] * rained(wet, p + 1, a);
    }

    private long drawn(int[] a) {
        out(a[0], 0, 60);
        out(a[1], 1, 999999);
        out(a[2], 0, 1);
        Town t = town.copy();
        java.math.BigInteger x = java.math.BigInteger.valueOf(a[1]);
        long lost = 0;
        for (int i = 0; i < a[0]; i++) {
            x = x.multiply(java.math.BigInteger.valueOf(16807)).mod(java.math.BigInteger.valueOf(2147483647));
            int v = x.intValueExact();
            Paper p = t.papers.get(v % t.papers.size());
            if (p.letters == 0) p.letters = v % 9 + 1;
            else if (v % 3 == 0) p.place = v / 8 % 10;
            lost += t.noon().lost;
        }
        return a[2] == 0 ? lost : t.letters();
    }

    private long asked(String name, int[] a) {
        switch (name) {
            case "image":
                out(a[0], 0, 1);
                told();
                images[a[0]] = town.copy();
                return 1;
            case "restore":
                out(a[0], 0, 1);
                if (images[a[0]] == null) throw new Refused(STATE);
                town = images[a[0]].copy();
                acts.clear();
                return 1;
            case "kind":
                return Arrays.asList(KINDS).indexOf(one(a[0]).getClass());
            case "as":
                one(a[0]);
                out(a[1], 0, 5);
                if (!KINDS[a[1]].isInstance(one(a[0]))) throw finding(3);
                return a[0];
            case "ask":
                one(a[0]);
                out(a[1], 0, 1);
                trace.clear();
                return a[1] == 0 ? one(a[0]).size(trace) : one(a[0]).mark(trace);
            case "trace":
                return a[0] >= 0 && a[0] < Math.min(16, trace.size()) ? trace.get(a[0]) : NONE;
            case "count":
                out(a[0], 0, 7);
                Town t = town == null ? new Town() : town;
                return new long[] {Arrays.stream(rows).filter(r -> r != null).count(), t.papers.size(), t.noon, t.eaten,
                    t.letters(), Integer.bitCount(t.nameless()), acts.size(), tape.length()}[a[0]];
            case "status":
                return status;
            default:
                throw new AssertionError(name);
        }
    }
}
