import java.lang.management.ManagementFactory;
import java.util.Random;

/** All calls of a run live in one room: an object makes its room once, and no call makes any more. */
public final class RoomTest {
    private static final com.sun.management.ThreadMXBean THREADS =
        (com.sun.management.ThreadMXBean) ManagementFactory.getThreadMXBean();
    private static final String SQUARE = "c4,2;p3,1,6;l5,0,7;b4,2,5;d6,1,9;s4,4,8;p9,9,2;";
    private static final int ROUNDS = 400, BYTES_OF_ONE = 16384;

    private static long made() {
        return THREADS.getThreadAllocatedBytes(Thread.currentThread().getId());
    }

    private static void tell(NameNoon x) {
        for (int i = 0; i < SQUARE.length(); i++) x.feed(SQUARE.charAt(i));
        x.square();
    }

    private static void callAll(NameNoon x, int[][] a) {
        for (int i = 0; i < Calls.NAMES.length; i++) Calls.call(x, Calls.NAMES[i], a[i]);
    }

    private static int[][] drawn(Random random) {
        int[][] a = new int[Calls.NAMES.length][];
        for (int i = 0; i < a.length; i++) {
            a[i] = new int[Calls.arity(Calls.NAMES[i])];
            for (int k = 0; k < a[i].length; k++) a[i][k] = random.nextInt(random.nextInt(4) == 0 ? 60 : 3);
        }
        return a;
    }

    public static void main(String[] args) {
        Check check = new Check();
        check.promise("the room");
        Random random = new Random(3);
        NameNoon x = new NameNoon();
        for (int i = 0; i < ROUNDS; i++) callAll(x, drawn(random));
        made();
        long before = made();
        x = new NameNoon();
        long one = made() - before;
        check.holds("an object makes " + one + " bytes", one < BYTES_OF_ONE);
        long calls = 0;
        for (int i = 0; i < ROUNDS; i++) {
            if (i % 3 == 0) tell(x);
            int[][] a = drawn(random);
            before = made();
            callAll(x, a);
            calls += made() - before;
        }
        check.holds("the calls made " + calls + " bytes", calls < 4096);
        System.out.println("an object makes " + one + " bytes, " + ROUNDS * Calls.NAMES.length + " calls make " + calls);
        check.end();
    }
}
