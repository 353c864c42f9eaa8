import java.util.Arrays;

/** Makes calls on an object by name, and says which answers are not the ones that are due. */
final class Driver {
    static final long NONE = -1000000, BAD = -1000001, STATE = -1000002, FULL = -1000003;
    static final long NULL = -1000011, PLACE = -1000012, KIND = -1000013, SIZE = -1000014, STORE = -1000015;
    static final int MIN = Integer.MIN_VALUE, MAX = Integer.MAX_VALUE;

    final NameNoon x = new NameNoon();
    private final Check check;

    /** One to which nothing was told. */
    Driver(Check check) {
        this.check = check;
    }

    Driver(Check check, String text) {
        this(check);
        tell(text);
    }

    static int[] of(int... a) {
        return a;
    }

    long call(String name, int... a) {
        return Calls.call(x, name, a);
    }

    void due(long due, String name, int... a) {
        check.due(name + Arrays.toString(a), call(name, a), due);
    }

    void feed(String text) {
        for (char c : text.toCharArray()) x.feed(c);
    }

    long tell(String text) {
        feed(text);
        return x.square();
    }

    /** A row of bytes with these items. */
    void line(int row, int... items) {
        x.row(row, 0, items.length);
        for (int i = 0; i < items.length; i++) x.set(row, i, items[i]);
    }

    /** All that can be read of the object by calls that change nothing, but for status(). */
    String look() {
        StringBuilder s = new StringBuilder();
        for (int what = 0; what < 8; what++) s.append(x.count(what)).append(' ');
        for (int what = 0; what < 7; what++) s.append(x.stand(what)).append(' ');
        for (int p = 0; p < 6; p++) {
            s.append(x.kind(p)).append(':');
            for (int what = 0; what < 5; what++) s.append(x.paper(p, what)).append(' ');
        }
        for (int i = 0; i < 16; i++) s.append(x.trace(i)).append(' ');
        return s.append(x.fault()).toString();
    }

    /** Without how many acts can be undone, which need not be as it was. */
    static String uncounted(String look) {
        String[] words = look.split(" ");
        words[6] = "";
        return String.join(" ", words);
    }

    void changesNothing(long due, String name, int... a) {
        String before = look();
        due(due, name, a);
        check.same("all behind " + name + Arrays.toString(a), look(), before);
    }

    void eachBad(String name, int[]... calls) {
        for (int[] a : calls) changesNothing(BAD, name, a);
    }
}
