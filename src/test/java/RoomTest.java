import com.sun.management.ThreadMXBean;
import java.lang.management.ManagementFactory;

/** All calls of a run live in one room: an object makes its rows once, and asking makes nothing. */
public final class RoomTest {
    private static final ThreadMXBean THREADS = (ThreadMXBean) ManagementFactory.getThreadMXBean();
    private static final long MOST_BYTES_OF_A_NEW_ONE = 4_000, MOST_BYTES_OF_A_FULL_ONE = 24_000;
    private static final long MOST_BYTES_OF_CALLS = 1_000;

    public static void main(String[] args) {
        use(new MeetingsAbove(), 2);
        long start = made();
        MeetingsAbove m = new MeetingsAbove();
        long fresh = made();
        fill(m);
        long full = made();
        use(m, 16);
        long used = made();
        Due.holds("a new object is small: " + (fresh - start), fresh - start <= MOST_BYTES_OF_A_NEW_ONE);
        Due.holds("a full object is small: " + (full - start), full - start <= MOST_BYTES_OF_A_FULL_ONE);
        Due.holds("calls make nothing: " + (used - full), used - full <= MOST_BYTES_OF_CALLS);
        Due.end();
    }

    private static long made() {
        return THREADS.getThreadAllocatedBytes(Thread.currentThread().getId());
    }

    private static void fill(MeetingsAbove m) {
        for (int t = 0; t < 16; t++) {
            m.thing(t, t, 0, 0, 200);
            for (int i = 1; i < 12; i++) {
                m.place(t, t, i, 0);
            }
        }
        for (int i = 0; i < 40; i++) {
            m.dot(i, 0, 0, 0);
            m.notice(0, 1);
        }
        m.keep(0);
        m.keep(1);
    }

    private static void use(MeetingsAbove m, int times) {
        for (int i = 0; i < times; i++) {
            m.keep(i % 2);
            m.differs(i % 2);
            m.best(0, 0, 0);
            m.burn(i % 16, i % 16, 0, 0, i % 2 == 0 ? 1 : -1);
            m.count(2);
            m.count(5);
            m.meeting(50, 0);
            m.share(0, 1, 5, 0);
            m.least(0, 1, 0);
            m.sieve(0, 1);
            m.notice(0, 1);
            m.answer(39, 0, 1);
            m.dot(0, 0, 0, 0);
            m.told(0, 4);
        }
    }
}
