import com.sun.management.ThreadMXBean;
import java.lang.management.ManagementFactory;

/** Rule 12 of LANGUAGE.md: what an object makes with all its terminals and transfers is small. */
public final class RoomTest {
    // 31 terminals of 30 places, each with 64 words of 4 bytes, and as much again for all the rest.
    private static final long MOST_BYTES = 2L * 31 * 30 * 64 * 4;

    public static void main(String[] args) {
        Check room = new Check("room");
        ThreadMXBean threads = (ThreadMXBean) ManagementFactory.getThreadMXBean();
        work();
        long before = threads.getCurrentThreadAllocatedBytes();
        TwinLines lines = work();
        long made = threads.getCurrentThreadAllocatedBytes() - before;
        room.due("all transfers were told", lines.count(4), 24);
        room.due("bytes made: " + made, made <= MOST_BYTES, true);
        Check.end(room);
    }

    /** 512 calls: everything that can be told, and then the dearest call of all again and again. */
    private static TwinLines work() {
        TwinLines lines = new TwinLines();
        int calls = 0;
        for (int address = 0; address <= 30; address++, calls++) {
            lines.terminal(address, 12);
        }
        for (int i = 0; i < 24; i++, calls++) {
            lines.transfer(i % 4, i, 1, 30 - i % 6, 1 + i % 2, 32, i % 16, i % 2);
        }
        for (int i = 0; i < 40; i++, calls++) {
            lines.alter(100 * i, 1);
        }
        for (int i = 0; i < 20; i++, calls++) {
            lines.mute(30, i);
        }
        lines.close();
        lines.retries(2);
        for (calls += 2; calls < 512; calls++) {
            lines.run(8);
        }
        return lines;
    }
}
