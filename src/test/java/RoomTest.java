import java.lang.management.ManagementFactory;
import java.util.Random;

/** All calls of one object live in one room: 512 of the dearest ones make few elements, as rows are used again. */
public final class RoomTest {
    // Each element takes a byte at least: this is far below the room's 7.3 million fields and elements.
    private static final long MOST = 2_000_000;

    public static void main(String[] args) {
        for (int form = 0; form < 4; form++) {
            byte[] row = row(form);
            byte[] frame = States.frameOf(row);
            // Once ahead, so that what the machine makes for itself does not count.
            dear(frame);
            long before = made();
            dear(frame);
            long bytes = made() - before;
            Checks.due("form " + form + ", bytes made: " + bytes, bytes < MOST, true);
        }
        long before = made();
        PackHouse x = new PackHouse();
        Checks.due("bytes that a new object takes", made() - before < 20_000 && x.size(0) == 0, true);
        Checks.end("RoomTest");
    }

    private static long made() {
        com.sun.management.ThreadMXBean bean = (com.sun.management.ThreadMXBean) ManagementFactory.getThreadMXBean();
        return bean.getThreadAllocatedBytes(Thread.currentThread().getId());
    }

    private static byte[] row(int form) {
        Random random = new Random(91);
        byte[] row = new byte[16384];
        for (int i = 0; i < row.length; i++) {
            row[i] = (byte) (form == 0 ? random.nextInt(2) : form == 1 ? i % 5 == 4 ? random.nextInt(3) : i % 4
                : form == 2 ? random.nextInt(3) * random.nextInt(2) : i % 300 == 0 ? random.nextInt(4) : 1);
        }
        return row;
    }

    private static void dear(byte[] frame) {
        PackHouse x = new PackHouse();
        Checks.load(x, 1, frame);
        Checks.due("read", x.read(0, 1, 4, 65536), 16384);
        x.set(1, 3);
        int calls = 2 + frame.length / 16;
        for (int i = 0; calls < 480; i++) {
            x.set(0, i % 4);
            x.write(1, 0, i % 6);
            x.read(2, 1, i % 6, 65536);
            x.learn(1);
            x.forget(1);
            x.join(3, 2, 0, 16384);
            x.cut(3, 0);
            x.write(3, 0, 4);
            x.open(2, 3, 65536);
            calls += 9;
        }
    }
}
