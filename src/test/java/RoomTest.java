import com.sun.management.ThreadMXBean;
import java.lang.management.ManagementFactory;

/** An object makes all its rows at once: no call makes more, so a run's room is that of its objects alone. */
public final class RoomTest {
    private static final String DEAR = "nnnnnnne0o1 x010x021x122x131x230x241x340x352x450x461x560x571x674x685 d1105";
    /** A run may make an object for each call; 512 of them have to fit 7.3 million fields and elements. */
    private static final long MOST_BYTES_OF_ONE = 14_000 * 4;

    private static final ThreadMXBean THREADS = (ThreadMXBean) ManagementFactory.getThreadMXBean();
    private static long kept = 0;

    private static long bytes() {
        return THREADS.getThreadAllocatedBytes(Thread.currentThread().getId());
    }

    public static void main(String[] args) {
        YearWord x = made();
        dearest(x);
        long before = bytes();
        for (int i = 0; i < 20; i++) dearest(x);
        long calls = bytes() - before;
        before = bytes();
        YearWord y = new YearWord();
        long one = bytes() - before;
        System.out.println("an object takes " + one + " bytes, 20 rounds of calls " + calls + " more (" + (kept + y.asked() != 0) + ")");
        if (one > MOST_BYTES_OF_ONE || calls > 1000) {
            System.out.println("that is too much");
            System.exit(1);
        }
    }

    private static YearWord made() {
        YearWord x = new YearWord();
        x.text(0, DEAR.length());
        for (int i = 0; i < DEAR.length(); i++) x.put(0, i, DEAR.charAt(i));
        if (x.speech(0) != 9) {
            System.out.println("no speech: fault at " + x.fault(0));
            System.exit(1);
        }
        return x;
    }

    private static void dearest(YearWord x) {
        x.row(0, 7);
        x.lots(8, 7);
        kept += x.told(1) + x.undo(0) + x.keep(1) + x.on(1);
        for (int i = 0; i < 7; i++) x.lay(0, i, -9);
        kept += x.speech(0) + x.fault(0) + x.worst() + x.hopes() + x.worst() + x.brings(1) + x.knows(1);
        kept += x.least(1) + x.heard(0) + x.slips(0) + x.first(0, 2) + x.odds(0) + x.years() + x.just(4);
        kept += x.known() + x.tell() + x.digest() + x.mean(0) + x.row(3, 40) + x.text(1, 80) + x.copy(1, 0, 3, 0, 2);
        kept += x.prize(0, 3) + x.mark(7, 1) + x.node(0, 2) + x.tear(3) + x.begin(0) + x.over() + x.here();
    }
}
