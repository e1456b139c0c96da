import java.lang.management.ManagementFactory;

/** All calls of a run share one room, so an object makes its rows once and its calls make none. */
public final class RoomTest {
    private static final com.sun.management.ThreadMXBean THREADS =
            (com.sun.management.ThreadMXBean) ManagementFactory.getThreadMXBean();
    private static final String[] TEXTS = {"a+b+c+d+e+f=16", "3x-5y=2z", "a+b+2c+2d+3e+4f=21", "a+2b+3c<=8; a>=b"};

    public static void main(String[] args) {
        long[] packed = new long[TEXTS.length * 3];
        for (int i = 0; i < TEXTS.length; i++) {
            for (int piece = 0; piece < 3; piece++) {
                String whole = String.format("%-24s", TEXTS[i]);
                packed[3 * i + piece] = Due.packed(whole.substring(8 * piece, 8 * piece + 8));
            }
        }
        use(new LeastSolutions(), packed);
        long before = THREADS.getThreadAllocatedBytes(Thread.currentThread().getId());
        LeastSolutions x = new LeastSolutions();
        long made = THREADS.getThreadAllocatedBytes(Thread.currentThread().getId());
        long sum = use(x, packed);
        long used = THREADS.getThreadAllocatedBytes(Thread.currentThread().getId());
        Due.holds("a new object takes " + (made - before) + " bytes, at most 64000 are due", made - before <= 64000);
        // Less than one vector for each call: the machine's own objects, not the class's.
        Due.holds("its calls take " + (used - made) + " bytes, at most 1000 are due", used - made <= 1000);
        Due.holds("the calls answered", sum != 0);
        Due.end("RoomTest");
    }

    private static long use(LeastSolutions x, long[] packed) {
        long sum = 0;
        for (int i = 0; i < packed.length; i += 3) {
            for (int piece = 0; piece < 3; piece++) {
                sum += x.type(packed[i + piece], 8);
            }
            sum += x.read() + x.place() + x.count(1) + x.letter(0) + x.number(0, 0);
            sum += x.solvable() + x.kernel() + x.kernelAt(0, 0);
            for (int what = 0; what < 3; what++) {
                sum += x.work(what, what == 2 ? 10 : 16);
            }
            x.tell(0, 1);
            x.cost(1, -1);
            sum += x.holds() + x.split() + x.times(0);
            sum += x.best(16) + x.bestAt(0);
        }
        return sum;
    }
}
