import com.sun.management.ThreadMXBean;
import java.lang.management.ManagementFactory;

/** All calls of a run live in one room: the dearest calls, 512 times over, make next to nothing. */
public final class RoomTest {
    private static final Due due = new Due("RoomTest");
    /** Far below 7.3 million fields and elements of four bytes, the JVM's own first steps included. */
    private static final long MOST_BYTES = 2_000_000;
    private static final ThreadMXBean threads = (ThreadMXBean) ManagementFactory.getThreadMXBean();

    public static void main(String[] args) {
        long before = allocated();
        Sowingcourt x = Table.court(5, 5, 'r', 'c', "sog");
        for (int i = 0; i < 5; i++) {
            x.copy(0);
        }
        x.start(0);
        for (int i = 0; i < 60; i++) {
            x.type(i % 10);
        }
        for (int i = 0; i < 48 && !x.isOver(); i++) {
            x.move(x.best(2));
        }
        x.undo();
        long sum = 0;
        for (int i = 0; i < 60; i++) {
            sum += x.value(5) + x.best(5) + (x.isPuzzle(5) ? 1 : 0) + x.play(0, 'l') + x.explainer() + x.line()
                    + x.sign(3) + (x.isSound() ? 1 : 0) + x.number();
        }
        long used = allocated() - before;
        due.is("answers", sum != 0, true);
        due.is("bytes used, " + used + ", are few", used < MOST_BYTES, true);
        due.end();
    }

    private static long allocated() {
        return threads.getThreadAllocatedBytes(Thread.currentThread().getId());
    }
}
