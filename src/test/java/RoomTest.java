import java.lang.management.ManagementFactory;
import com.sun.management.ThreadMXBean;

/** All calls of a run live in one room: what is made is made by the constructor, and used again. */
public final class RoomTest {
    private static final long MOST_BYTES_OF_AN_OBJECT = 8192;
    private static final long MOST_BYTES_OF_CALLS = 1024;
    private static final ThreadMXBean MACHINE = (ThreadMXBean) ManagementFactory.getThreadMXBean();

    public static void main(String[] args) {
        Check c = new Check();
        run();
        long start = bytes();
        TurningTown x = new TurningTown();
        long made = bytes() - start;
        c.due("a new object of " + made + " bytes is small", made <= MOST_BYTES_OF_AN_OBJECT ? 1 : 0, 1);
        start = bytes();
        calls(x);
        long used = bytes() - start;
        c.due("calls make " + used + " bytes", used <= MOST_BYTES_OF_CALLS ? 1 : 0, 1);
        c.end();
    }

    private static long bytes() {
        return MACHINE.getThreadAllocatedBytes(Thread.currentThread().getId());
    }

    /** Once ahead of the counting, so that what the machine itself loads isn't counted. */
    private static void run() {
        bytes();
        calls(new TurningTown());
    }

    private static void calls(TurningTown x) {
        String text = "304159265358;td,hk,ea,sg,cb,he";
        for (int i = 0; i < text.length(); i++) {
            x.letter(text.charAt(i));
        }
        x.square();
        for (int i = 0; i < 20; i++) {
            x.night();
            x.snow();
            x.wish(5, 6, 40);
            x.see(4, 4, 40);
            x.order(10);
            x.image();
            x.restore();
            x.digest();
            x.years(60, i, 1);
            x.again();
            x.when(0, 3);
            x.neighbours(0, 3);
            x.post(4, 3);
        }
    }
}
