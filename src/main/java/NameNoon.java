import java.util.Arrays;

/** The town clock that eats a name each noon: papers in a square, what is done to them and what is foretold. */
public final class NameNoon {
    public static final int NONE = -1000000, BAD = -1000001, STATE = -1000002, FULL = -1000003;

    private static final int FINDING = -1000010;
    private static final int FOUND_NULL = 1, FOUND_PLACE = 2, FOUND_KIND = 3, FOUND_SIZE = 4, FOUND_STORE = 5;
    private static final int FAULT = -1000100;

    private static final int ROWS = 8, ITEMS = 40, LANES = 3;
    private static final int TAPE = 90;
    private static final int PAPERS = 6, PLACES = 10, LONGEST = 9;
    private static final int KEPT_ACTS = 24, KEPT_IMAGES = 2;
    private static final int NOONS_AT_ONCE = 24, LAST_NOON = 999;
    private static final int FORESIGHT = 60, SHORT_FORESIGHT = 40;
    private static final int MOST_LETTERS = PAPERS * LONGEST, MOST_INK = 999;
    private static final int TURNS = 4, TURN_NOONS = 20;
    private static final int TOLD_NOONS = 12, TOLD_NONE = 99;
    private static final int LAST_SEED = 999999;

    private static final int ANY = 0, PLAIN = 1, LATIN = 2, BORROWED = 3, DOUBLE = 4, STREET = 5;
    private static final int KINDS = 6;
    /** Of which kind each kind is, too. */
    private static final int[] KIND_ABOVE = {0, 0, 1, 1, 0, 4};

    private final Rows rows;
    private final Tape tape;
    private final Square now;
    private final Acts acts;
    private final Square firstImage;
    private final Square secondImage;
    private final Foresight foresight;
    private final Asks asks;
    private int latestFault;
    private int latestFinding;

    public NameNoon() {
        rows = new Rows();
        tape = new Tape();
        now = new Square();
        acts = new Acts();
        firstImage = new Square();
        secondImage = new Square();
        foresight = new Foresight(now);
        asks = new Asks(now);
    }

    // ---- rows

    public int row(int row, int lane, int n) {
        if (!rows.isRow(row) || !within(lane, 0, LANES - 1) || n > ITEMS) {
            return BAD;
        }
        if (n < 0) {
            return found(FOUND_SIZE);
        }
        latestFinding = 0;
        rows.make(row, lane, n);
        return n;
    }

    public int set(int row, int i, int v) {
        if (!rows.isRow(row)) {
            return BAD;
        }
        if (rows.isMissing(row)) {
            return found(FOUND_NULL);
        }
        if (!rows.hasItems(row, i, 1)) {
            return found(FOUND_PLACE);
        }
        latestFinding = 0;
        return rows.put(row, i, v);
    }

    public int copy(int a, int i, int b, int j, int n) {
        if (!rows.isRow(a) || !rows.isRow(b)) {
            return BAD;
        }
        if (rows.isMissing(a) || rows.isMissing(b)) {
            return found(FOUND_NULL);
        }
        if (rows.laneOf(a) != rows.laneOf(b)) {
            return found(FOUND_STORE);
        }
        if (!rows.hasItems(a, i, n) || !rows.hasItems(b, j, n)) {
            return found(FOUND_PLACE);
        }
        latestFinding = 0;
        rows.carry(a, i, b, j, n);
        return n;
    }

    public int drop(int row) {
        if (!rows.isRow(row)) {
            return BAD;
        }
        if (rows.isMissing(row)) {
            return found(FOUND_NULL);
        }
        latestFinding = 0;
        return rows.remove(row);
    }

    // ---- what is told

    public int feed(int letter) {
        if (!within(letter, 0, 255)) {
            return BAD;
        }
        if (tape.isFull()) {
            return FULL;
        }
        return tape.add(letter);
    }

    public int square() {
        boolean read = tape.read();
        tape.clear();
        if (!read) {
            latestFault = tape.fault;
            return FAULT - tape.faultAt;
        }
        now.take(tape.draft);
        acts.clear();
        return now.papers;
    }

    public int fault() {
        return latestFault;
    }

    public int undo() {
        if (acts.kept == 0) {
            return STATE;
        }
        acts.takeBack(now);
        return acts.kept;
    }

    // ---- what is done

    public int noons(int n) {
        if (now.papers == 0) {
            return STATE;
        }
        if (!within(n, 1, NOONS_AT_ONCE)) {
            return BAD;
        }
        if (now.noon + n > LAST_NOON) {
            return FULL;
        }
        int before = now.eaten;
        for (int i = 0; i < n; i++) {
            acts.keep(now);
            now.passNoon();
        }
        return now.eaten - before;
    }

    public int move(int paper, int place) {
        if (!now.has(paper) || !isPlace(place)) {
            return BAD;
        }
        int before = now.places[paper];
        if (before == place) {
            return STATE;
        }
        acts.keep(now);
        now.places[paper] = place;
        return before;
    }

    public int write(int paper, int v) {
        if (!now.has(paper) || !within(v, 1, LONGEST)) {
            return BAD;
        }
        int before = now.longs[paper];
        acts.keep(now);
        now.longs[paper] = v;
        return before;
    }

    public int hide(int paper) {
        if (!now.has(paper)) {
            return BAD;
        }
        acts.keep(now);
        now.hidden ^= 1 << paper;
        return now.isHidden(paper) ? 1 : 0;
    }

    public int clock(int place) {
        if (now.papers == 0) {
            return STATE;
        }
        if (!isPlace(place)) {
            return BAD;
        }
        int before = now.clock;
        if (before == place) {
            return STATE;
        }
        acts.keep(now);
        now.clock = place;
        return before;
    }

    public int paper(int paper, int what) {
        if (!now.has(paper)) {
            return BAD;
        }
        switch (what) {
            case 0: return now.places[paper];
            case 1: return now.lows[paper];
            case 2: return now.longs[paper];
            case 3: return now.nearOf(paper);
            case 4: return now.isHidden(paper) ? 1 : 0;
            default: return BAD;
        }
    }

    public int stand(int what) {
        if (now.papers == 0) {
            return STATE;
        }
        switch (what) {
            case 0: return now.papers;
            case 1: return now.clock;
            case 2: return now.drift;
            case 3: return now.rest;
            case 4: return now.namelessBits();
            case 5: return now.hidden;
            case 6: return now.nextBitten();
            default: return BAD;
        }
    }

    // ---- foretold

    public int ahead(int paper, int n, int what) {
        if (!now.has(paper) || !within(n, 0, FORESIGHT) || !within(what, 0, 1)) {
            return BAD;
        }
        Square then = foresight.behind(n);
        return what == 0 ? then.longs[paper] : then.places[paper];
    }

    public int bitten(int n, int what) {
        if (now.papers == 0) {
            return STATE;
        }
        if (!within(n, 1, FORESIGHT) || !within(what, 0, 1)) {
            return BAD;
        }
        Square then = foresight.behind(n);
        return what == 0 ? then.latestBitten : then.latestLost;
    }

    public int left(int n, int what) {
        if (now.papers == 0) {
            return STATE;
        }
        if (!within(n, 0, FORESIGHT) || !within(what, 0, 2)) {
            return BAD;
        }
        Square then = foresight.behind(n);
        switch (what) {
            case 0: return then.allLetters();
            case 1: return then.namelessBits();
            default: return then.clock;
        }
    }

    public int when(int paper, int how) {
        if (!now.has(paper) || !within(how, 0, 1)) {
            return BAD;
        }
        return how == 0 ? foresight.firstBitten(paper) : foresight.firstNameless(1 << paper);
    }

    public int over() {
        if (now.papers == 0) {
            return STATE;
        }
        return foresight.firstNameless(now.allBits());
    }

    public int spot(int paper, int n, int what) {
        if (!now.has(paper) || !within(n, 1, FORESIGHT) || !within(what, 0, 1)) {
            return BAD;
        }
        int best = foresight.bestPlace(paper, n);
        return what == 0 ? best : foresight.lettersFrom(paper, best, n);
    }

    public int decoy(int paper, int other, int n) {
        if (!now.has(paper) || !now.has(other) || paper == other || !within(n, 1, SHORT_FORESIGHT)) {
            return BAD;
        }
        return foresight.leastDecoy(paper, other, n);
    }

    public int hides(int n, int what) {
        if (now.papers == 0) {
            return STATE;
        }
        if (!within(n, 1, SHORT_FORESIGHT) || !within(what, 0, 1)) {
            return BAD;
        }
        int fewest = foresight.fewestHidden(n);
        return what == 0 ? Integer.bitCount(fewest) : fewest;
    }

    public int sets(int v, int what) {
        if (now.papers == 0) {
            return STATE;
        }
        if (!within(v, 0, MOST_LETTERS) || !within(what, 0, 2)) {
            return BAD;
        }
        switch (what) {
            case 0: return foresight.howManySets(v);
            case 1: return foresight.inAllSets(v);
            default: return foresight.inAnySet(v);
        }
    }

    public int share(int paper, int n) {
        if (!now.has(paper) || !within(n, 0, MOST_INK)) {
            return BAD;
        }
        return foresight.inkOf(paper, n);
    }

    public int byTurns(int n, int m) {
        int last = now.papers - 1;
        if (!now.has(last)) {
            return STATE;
        }
        if (!within(n, 0, TURNS) || !within(m, 1, TURN_NOONS)) {
            return BAD;
        }
        return Foresight.bestOf(foresight, 0, n, m, now.places[0], now.places[last]);
    }

    public int who(int paper, int which, int row, int i, int n) {
        if (!now.has(paper) || !within(which, 0, 3) || !rows.isRow(row) || !within(n, 1, TOLD_NOONS)) {
            return BAD;
        }
        if (rows.isMissing(row)) {
            return found(FOUND_NULL);
        }
        if (!rows.hasItems(row, i, n)) {
            return found(FOUND_PLACE);
        }
        latestFinding = 0;
        return foresight.fitting(paper, which, rows, row, i, n);
    }

    public long rain(int paper, int n, int p, int what) {
        if (!now.has(paper) || !within(n, 0, FORESIGHT) || !within(p, 0, 10) || !within(what, 0, 1)) {
            return BAD;
        }
        long above = foresight.casesKept(paper, n, p);
        long below = foresight.casesOfRain();
        long common = commonDivisor(above, below);
        if (common == 0) {
            return BAD;
        }
        return what == 0 ? above / common : below / common;
    }

    public int drawn(int n, int seed, int what) {
        if (now.papers == 0) {
            return STATE;
        }
        if (!within(n, 0, FORESIGHT) || !within(seed, 1, LAST_SEED) || !within(what, 0, 1)) {
            return BAD;
        }
        Square then = foresight.behindDraws(n, seed);
        return what == 0 ? then.eaten - now.eaten : then.allLetters();
    }

    public int image(int k) {
        if (!within(k, 0, KEPT_IMAGES - 1)) {
            return BAD;
        }
        if (now.papers == 0) {
            return STATE;
        }
        imageAt(k).take(now);
        return 1;
    }

    public int restore(int k) {
        if (!within(k, 0, KEPT_IMAGES - 1)) {
            return BAD;
        }
        Square kept = imageAt(k);
        if (kept.papers == 0) {
            return STATE;
        }
        now.take(kept);
        acts.clear();
        return 1;
    }

    // ---- asked

    public int kind(int one) {
        return now.has(one) ? now.kinds[one] : BAD;
    }

    public int as(int one, int kind) {
        if (!now.has(one) || !within(kind, 0, KINDS - 1)) {
            return BAD;
        }
        if (!isOfKind(now.kinds[one], kind)) {
            return found(FOUND_KIND);
        }
        latestFinding = 0;
        return one;
    }

    public int ask(int one, int what) {
        if (!now.has(one) || !within(what, 0, 1)) {
            return BAD;
        }
        return asks.answer(one, what);
    }

    public int trace(int i) {
        return within(i, 0, asks.traced - 1) ? asks.numbers[i] : NONE;
    }

    public int count(int what) {
        switch (what) {
            case 0: return rows.present();
            case 1: return now.papers;
            case 2: return now.noon;
            case 3: return now.eaten;
            case 4: return now.allLetters();
            case 5: return Integer.bitCount(now.namelessBits());
            case 6: return acts.kept;
            case 7: return tape.length;
            default: return BAD;
        }
    }

    public int status() {
        return latestFinding;
    }

    // ---- what the calls share

    private int found(int finding) {
        latestFinding = finding;
        return FINDING - finding;
    }

    private Square imageAt(int k) {
        return k == 0 ? firstImage : secondImage;
    }

    private static boolean within(int v, int least, int most) {
        return v >= least && v <= most;
    }

    private static boolean isPlace(int v) {
        return within(v, 0, PLACES - 1);
    }

    private static boolean isOfKind(int kind, int wanted) {
        int k = kind;
        for (int step = 0; step < KINDS; step++) {
            if (k == wanted) {
                return true;
            }
            if (!within(k, 1, KINDS - 1)) {
                return false;
            }
            k = KIND_ABOVE[k];
        }
        return false;
    }

    private static long commonDivisor(long a, long b) {
        long great = a;
        long small = b;
        for (int i = 0; i < 200 && small != 0; i++) {
            long over = great % small;
            great = small;
            small = over;
        }
        return great;
    }

    /** Rows of three lanes; the room for all of them is made once. */
    private static final class Rows {
        private static final int MISSING = -1;
        private final int[][] items = new int[ROWS][ITEMS];
        private final int[] lanes = new int[ROWS];
        private final int[] sizes = new int[ROWS];

        Rows() {
            Arrays.fill(sizes, MISSING);
        }

        boolean isRow(int row) {
            return within(row, 0, ROWS - 1);
        }

        boolean isMissing(int row) {
            return sizes[row] == MISSING;
        }

        int laneOf(int row) {
            return lanes[row];
        }

        /** In long, so that a far place and a great number do not wrap around into the row. */
        boolean hasItems(int row, int from, int n) {
            return from >= 0 && n >= 0 && (long) from + n <= sizes[row];
        }

        void make(int row, int lane, int n) {
            Arrays.fill(items[row], 0);
            lanes[row] = lane;
            sizes[row] = n;
        }

        int put(int row, int i, int v) {
            int kept = v;
            if (lanes[row] == 0) {
                kept = (byte) v;
            } else if (lanes[row] == 1) {
                kept = (short) v;
            }
            items[row][i] = kept;
            return kept;
        }

        int itemAt(int row, int i) {
            return items[row][i];
        }

        void carry(int a, int i, int b, int j, int n) {
            System.arraycopy(items[a], i, items[b], j, n);
        }

        int remove(int row) {
            int had = sizes[row];
            sizes[row] = MISSING;
            return had;
        }

        int present() {
            int n = 0;
            for (int row = 0; row < ROWS; row++) {
                if (!isMissing(row)) {
                    n++;
                }
            }
            return n;
        }
    }

    /** The bytes that came, and how a square is read from them into a draft. */
    private static final class Tape {
        private final int[] bytes = new int[TAPE];
        private int length;
        private final Square draft = new Square();
        private int at;
        private int number;
        private int fault;
        private int faultAt;

        boolean isFull() {
            return length >= TAPE;
        }

        int add(int letter) {
            if (!isFull()) {
                bytes[length] = letter;
                length++;
            }
            return length;
        }

        void clear() {
            length = 0;
        }

        boolean read() {
            at = 0;
            // no noon ever comes to the draft, so but for its papers nothing of it can be left over
            draft.papers = 0;
            if (!readLaw() || !readPaper()) {
                return false;
            }
            for (int i = 0; i < TAPE && at < length; i++) {
                if (!readPaper()) {
                    return false;
                }
            }
            return true;
        }

        private boolean readLaw() {
            if (!readByte('c') || !readNumber(0, PLACES - 1)) {
                return false;
            }
            draft.clock = number;
            if (!readByte(',') || !readNumber(0, 2)) {
                return false;
            }
            draft.drift = number;
            return readByte(';');
        }

        private boolean readPaper() {
            int kind = kindTold(byteAt(at));
            if (kind == ANY) {
                return faulty(1);
            }
            int paper = draft.papers;
            if (paper >= PAPERS) {
                return faulty(3);
            }
            at++;
            if (!readNumber(0, PLACES - 1)) {
                return false;
            }
            draft.kinds[paper] = kind;
            draft.places[paper] = number;
            if (!readByte(',') || !readNumber(0, 9)) {
                return false;
            }
            draft.lows[paper] = number;
            if (!readByte(',') || !readNumber(1, LONGEST)) {
                return false;
            }
            draft.longs[paper] = number;
            draft.papers++;
            return readByte(';');
        }

        private boolean readByte(char wanted) {
            if (byteAt(at) != wanted) {
                return faulty(1);
            }
            at++;
            return true;
        }

        private boolean readNumber(int least, int most) {
            int figures = 0;
            int value = 0;
            while (figures < 3 && isFigure(byteAt(at + figures))) {
                value = value * 10 + byteAt(at + figures) - '0';
                figures++;
            }
            if (figures == 0 || figures > 2) {
                return faulty(1);
            }
            if (!within(value, least, most)) {
                return faulty(2);
            }
            number = value;
            at += figures;
            return true;
        }

        private boolean faulty(int what) {
            fault = what;
            faultAt = at;
            return false;
        }

        private int byteAt(int i) {
            return i >= 0 && i < length && i < TAPE ? bytes[i] : -1;
        }

        private static boolean isFigure(int letter) {
            return letter >= '0' && letter <= '9';
        }

        private static int kindTold(int letter) {
            switch (letter) {
                case 'p': return PLAIN;
                case 'l': return LATIN;
                case 'b': return BORROWED;
                case 'd': return DOUBLE;
                case 's': return STREET;
                default: return ANY;
            }
        }
    }

    /** A square as it stands: its clock and its papers. One without papers is none. */
    private static final class Square {
        private int papers;
        private int clock;
        private int drift;
        private int rest;
        private int noon;
        private int eaten;
        private int hidden;
        private int latestBitten = NONE;
        private int latestLost;
        private final int[] kinds = new int[PAPERS];
        private final int[] places = new int[PAPERS];
        private final int[] lows = new int[PAPERS];
        private final int[] longs = new int[PAPERS];

        void take(Square from) {
            papers = from.papers;
            clock = from.clock;
            drift = from.drift;
            rest = from.rest;
            noon = from.noon;
            eaten = from.eaten;
            hidden = from.hidden;
            System.arraycopy(from.kinds, 0, kinds, 0, PAPERS);
            System.arraycopy(from.places, 0, places, 0, PAPERS);
            System.arraycopy(from.lows, 0, lows, 0, PAPERS);
            System.arraycopy(from.longs, 0, longs, 0, PAPERS);
        }

        boolean has(int paper) {
            return paper >= 0 && paper < papers;
        }

        boolean isHidden(int paper) {
            return (hidden >> paper & 1) != 0;
        }

        int allBits() {
            return (1 << papers) - 1;
        }

        int nearOf(int paper) {
            return Math.abs(places[paper] - clock) + lows[paper];
        }

        int allLetters() {
            int sum = 0;
            for (int p = 0; p < papers; p++) {
                sum += longs[p];
            }
            return sum;
        }

        int namelessBits() {
            int bits = 0;
            for (int p = 0; p < papers; p++) {
                if (longs[p] == 0) {
                    bits |= 1 << p;
                }
            }
            return bits;
        }

        int nextBitten() {
            if (rest > 0) {
                return NONE;
            }
            int best = NONE;
            int bestNear = 0;
            for (int p = 0; p < papers; p++) {
                if (longs[p] == 0 || isHidden(p)) {
                    continue;
                }
                int near = nearOf(p);
                if (best < 0 || near < bestNear || near == bestNear && longs[p] > longs[best]) {
                    best = p;
                    bestNear = near;
                }
            }
            return best;
        }

        void passNoon() {
            latestBitten = nextBitten();
            latestLost = 0;
            if (rest > 0) {
                rest--;
            } else if (has(latestBitten)) {
                bite(latestBitten);
            }
            clock = Math.floorMod(clock + drift - 1, PLACES);
            noon++;
        }

        void passNoons(int n) {
            for (int i = 0; i < n; i++) {
                passNoon();
            }
        }

        private void bite(int paper) {
            int loser = kinds[paper] == BORROWED ? lenderOf(paper) : paper;
            if (isSpatOut(paper)) {
                places[paper] = Math.min(places[paper] + 1, PLACES - 1);
            } else {
                latestLost = Math.min(biteOf(paper), longs[loser]);
            }
            longs[loser] -= latestLost;
            eaten += latestLost;
            rest = Math.max(0, latestLost - 5);
        }

        private boolean isSpatOut(int paper) {
            return kinds[paper] == LATIN && longs[paper] % 2 != 0;
        }

        private int biteOf(int paper) {
            switch (kinds[paper]) {
                case DOUBLE: return (longs[paper] + 1) / 2;
                case STREET: return 1;
                default: return longs[paper];
            }
        }

        private int lenderOf(int paper) {
            for (int step = 1; step < papers; step++) {
                int other = paper + step;
                if (other >= papers) {
                    other -= papers;
                }
                if (longs[other] > 0) {
                    return other;
                }
            }
            return paper;
        }
    }

    /** The squares ahead of the latest acts, in a ring, so that the oldest one is forgotten. */
    private static final class Acts {
        private final Square[] before = new Square[KEPT_ACTS];
        private int next;
        private int kept;

        Acts() {
            for (int i = 0; i < KEPT_ACTS; i++) {
                before[i] = new Square();
            }
        }

        void clear() {
            next = 0;
            kept = 0;
        }

        void keep(Square square) {
            before[next].take(square);
            next = next + 1 < KEPT_ACTS ? next + 1 : 0;
            kept = Math.min(kept + 1, KEPT_ACTS);
        }

        void takeBack(Square square) {
            next = next > 0 ? next - 1 : KEPT_ACTS - 1;
            kept--;
            square.take(before[next]);
        }
    }

    /** What would come of the square: all is tried on a second square, so that the first one stays. */
    private static final class Foresight {
        private final Square now;
        private final Square then = new Square();

        Foresight(Square now) {
            this.now = now;
        }

        Square behind(int n) {
            then.take(now);
            then.passNoons(n);
            return then;
        }

        int firstBitten(int paper) {
            then.take(now);
            for (int n = 1; n <= FORESIGHT; n++) {
                then.passNoon();
                if (then.latestBitten == paper) {
                    return n;
                }
            }
            return NONE;
        }

        int firstNameless(int wanted) {
            then.take(now);
            for (int n = 0; n <= FORESIGHT; n++) {
                if ((then.namelessBits() & wanted) == wanted) {
                    return n;
                }
                then.passNoon();
            }
            return NONE;
        }

        int bestPlace(int paper, int n) {
            int best = 0;
            int most = -1;
            for (int place = 0; place < PLACES; place++) {
                int letters = lettersFrom(paper, place, n);
                if (letters > most) {
                    most = letters;
                    best = place;
                }
            }
            return best;
        }

        int lettersFrom(int paper, int place, int n) {
            then.take(now);
            then.places[paper] = place;
            then.passNoons(n);
            return then.longs[paper];
        }

        int leastDecoy(int paper, int other, int n) {
            for (int letters = 1; letters <= LONGEST; letters++) {
                then.take(now);
                then.longs[paper] = letters;
                then.passNoons(n);
                if (then.longs[other] == now.longs[other]) {
                    return letters;
                }
            }
            return NONE;
        }

        int fewestHidden(int n) {
            int best = now.allBits();
            for (int hidden = 0; hidden < now.allBits(); hidden++) {
                if (Integer.bitCount(hidden) < Integer.bitCount(best) && savesAll(hidden, n)) {
                    best = hidden;
                }
            }
            return best;
        }

        private boolean savesAll(int hidden, int n) {
            then.take(now);
            then.hidden = hidden;
            then.passNoons(n);
            for (int p = 0; p < then.papers; p++) {
                boolean mayLose = then.isHidden(p) || then.kinds[p] == STREET;
                if (!mayLose && then.longs[p] != now.longs[p]) {
                    return false;
                }
            }
            return true;
        }

        private boolean isSetOf(int set, int v) {
            if ((set & now.namelessBits()) != 0) {
                return false;
            }
            int sum = 0;
            for (int p = 0; p < now.papers; p++) {
                if ((set >> p & 1) != 0) {
                    sum += now.longs[p];
                }
            }
            return sum == v;
        }

        int howManySets(int v) {
            int n = 0;
            for (int set = 0; set <= now.allBits(); set++) {
                if (isSetOf(set, v)) {
                    n++;
                }
            }
            return n;
        }

        int inAllSets(int v) {
            int bits = now.allBits();
            boolean any = false;
            for (int set = 0; set <= now.allBits(); set++) {
                if (isSetOf(set, v)) {
                    bits &= set;
                    any = true;
                }
            }
            return any ? bits : 0;
        }

        int inAnySet(int v) {
            int bits = 0;
            for (int set = 0; set <= now.allBits(); set++) {
                if (isSetOf(set, v)) {
                    bits |= set;
                }
            }
            return bits;
        }

        int inkOf(int paper, int n) {
            int all = now.allLetters();
            if (all == 0 || now.longs[paper] == 0) {
                return 0;
            }
            int over = n;
            int ahead = 0;
            for (int p = 0; p < now.papers; p++) {
                over -= n * now.longs[p] / all;
                if (p < paper && now.longs[p] > 0) {
                    ahead++;
                }
            }
            return n * now.longs[paper] / all + (ahead < over ? 1 : 0);
        }

        private static int bestOf(Foresight told, int turn, int n, int m, int first, int last) {
            if (turn >= n || turn >= TURNS) {
                return told.gain(m, first, last);
            }
            boolean debtor = turn % 2 == 0;
            int best = debtor ? -LONGEST : LONGEST;
            for (int step = -1; step <= 1; step++) {
                int nextFirst = debtor ? first + step : first;
                int nextLast = debtor ? last : last + step;
                if (isPlace(nextFirst) && isPlace(nextLast)) {
                    int v = bestOf(told, turn + 1, n, m, nextFirst, nextLast);
                    best = debtor ? Math.max(best, v) : Math.min(best, v);
                }
            }
            return best;
        }

        private int gain(int m, int first, int last) {
            then.take(now);
            int lastPaper = then.papers - 1;
            if (!then.has(lastPaper)) {
                return 0;
            }
            then.places[0] = first;
            then.places[lastPaper] = last;
            then.passNoons(m);
            return then.longs[0] - then.longs[lastPaper];
        }

        int fitting(int paper, int which, Rows rows, int row, int i, int n) {
            int least = which == 0 || which == 2 ? 1 : 0;
            int most = which == 0 ? KINDS - 1 : 9;
            int bits = 0;
            for (int v = least; v <= most; v++) {
                then.take(now);
                suppose(paper, which, v);
                if (comesAsTold(rows, row, i, n)) {
                    bits |= 1 << v;
                }
            }
            return bits;
        }

        private void suppose(int paper, int which, int v) {
            switch (which) {
                case 0: then.kinds[paper] = v; break;
                case 1: then.places[paper] = v; break;
                case 2: then.longs[paper] = v; break;
                default: then.clock = v; break;
            }
        }

        private boolean comesAsTold(Rows rows, int row, int i, int n) {
            for (int k = 0; k < n; k++) {
                then.passNoon();
                int bitten = then.latestBitten == NONE ? TOLD_NONE : then.latestBitten;
                if (rows.itemAt(row, i + k) != bitten) {
                    return false;
                }
            }
            return true;
        }

        long casesKept(int paper, int n, int p) {
            int shown = now.allBits() & ~now.hidden;
            long kept = 0;
            for (int rained = 0; rained <= now.allBits(); rained++) {
                if ((rained & ~shown) == 0) {
                    long cases = power(p, Integer.bitCount(rained)) * power(10 - p, Integer.bitCount(shown & ~rained));
                    // where there are no such cases the noons need not be tried
                    if (cases > 0 && keepsName(paper, n, rained)) {
                        kept += cases;
                    }
                }
            }
            return kept;
        }

        private boolean keepsName(int paper, int n, int rained) {
            then.take(now);
            then.hidden |= rained;
            then.passNoons(n);
            return then.longs[paper] > 0;
        }

        long casesOfRain() {
            return power(10, Integer.bitCount(now.allBits() & ~now.hidden));
        }

        private static long power(int base, int n) {
            long v = 1;
            for (int i = 0; i < n && i < PAPERS; i++) {
                v *= base;
            }
            return v;
        }

        Square behindDraws(int n, int seed) {
            then.take(now);
            long x = seed;
            for (int i = 0; i < n; i++) {
                x = x * 16807 % 2147483647;
                draw(x);
                then.passNoon();
            }
            return then;
        }

        private void draw(long x) {
            if (then.papers == 0) {
                return;
            }
            int paper = (int) (x % then.papers);
            if (!then.has(paper)) {
                return;
            }
            if (then.longs[paper] == 0) {
                then.longs[paper] = (int) (x % 9) + 1;
            } else if (x % 3 == 0) {
                then.places[paper] = (int) (x / 8 % PLACES);
            }
        }
    }

    /** Asks of papers by bodies; an ask within a body begins anew at the paper's own kind. */
    private static final class Asks {
        private static final int SIZE = 0, MARK = 1;
        private static final int TRACE = 16, DEEPEST = 12;
        private final Square now;
        private final int[] numbers = new int[TRACE];
        private int traced;

        Asks(Square now) {
            this.now = now;
        }

        int answer(int paper, int what) {
            traced = 0;
            return anew(this, paper, what, 0);
        }

        private static int bodyFor(int kind, int what) {
            switch (kind) {
                case PLAIN: return what == SIZE ? 11 : 21;
                case LATIN: return what == SIZE ? 12 : 24;
                case BORROWED: return what == SIZE ? 11 : 22;
                case DOUBLE: return what == SIZE ? 13 : 23;
                case STREET: return what == SIZE ? 14 : 23;
                default: return what == SIZE ? 10 : 20;
            }
        }

        private static int anew(Asks asks, int paper, int what, int depth) {
            return body(asks, bodyFor(asks.now.kinds[paper], what), paper, depth);
        }

        private static int body(Asks asks, int number, int paper, int depth) {
            if (depth > DEEPEST) {
                return 0;
            }
            asks.leaveTrace(number);
            int deeper = depth + 1;
            switch (number) {
                case 10: return asks.now.longs[paper];
                case 11: return body(asks, 10, paper, deeper) + anew(asks, paper, MARK, deeper);
                case 12: return -body(asks, 11, paper, deeper);
                case 13: return body(asks, 10, paper, deeper) - 100;
                case 14: return body(asks, 13, paper, deeper) * 2;
                case 20: return paper;
                case 21: return body(asks, 20, paper, deeper) + asks.now.places[paper];
                case 22: return body(asks, 21, paper, deeper) - 1000;
                case 23: return body(asks, 20, paper, deeper) - anew(asks, paper, SIZE, deeper);
                case 24: return body(asks, 21, paper, deeper) * 2;
                default: return 0;
            }
        }

        private void leaveTrace(int number) {
            if (traced < TRACE) {
                numbers[traced] = number;
                traced++;
            }
        }
    }
}
