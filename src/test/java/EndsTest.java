import java.lang.reflect.Method;
import java.lang.reflect.Modifier;
import java.util.Arrays;
import java.util.Comparator;
import java.util.Random;

/** Whatever the arguments and the rows are, each call ends, none throws, and a fault leaves row d as it was. */
public final class EndsTest {
    private static final byte[][] MARKS = {{}, Checks.bytes(4, 34, 77, 24), Checks.bytes(40, 181, 47, 253),
        Checks.bytes(55, 164, 48, 236, 1, 2, 3, 4), Checks.bytes(255, 6, 0, 0, 115, 78, 97, 80, 112, 89),
        Checks.bytes(80, 42, 77, 24), Checks.bytes(40, 181, 47, 253, 0, 80, 5, 4, 0)};

    public static void main(String[] args) throws Exception {
        anyArguments();
        anyRows();
        spoiledRows();
        hardRows();
        Checks.end("EndsTest");
    }

    private static void anyArguments() throws Exception {
        Random random = new Random(21);
        int[] some = {-1, 0, 1, 2, 3, 4, 5, 7, 8, 9, 16, 64, 100, 255, 256, 16384, 16385, 65535, 65536, 65537,
            Integer.MAX_VALUE, Integer.MIN_VALUE, -50};
        Method[] all = PackHouse.class.getDeclaredMethods();
        // Their order is free: the test is to do the same each time.
        Arrays.sort(all, Comparator.comparing(Method::toString));
        for (int turn = 0; turn < 300; turn++) {
            PackHouse x = new PackHouse();
            for (int i = 0; i < 500; i++) {
                Method m = all[random.nextInt(all.length)];
                if (!Modifier.isPublic(m.getModifiers())) {
                    continue;
                }
                Class<?>[] types = m.getParameterTypes();
                Object[] values = new Object[types.length];
                for (int k = 0; k < types.length; k++) {
                    int v = random.nextBoolean() ? random.nextInt(4) : some[random.nextInt(some.length)];
                    values[k] = types[k] == int.class ? (Object) v
                        : types[k] == long.class ? (Object) random.nextLong() : (Object) random.nextBoolean();
                }
                m.invoke(x, values);
            }
            Checks.due("strayed", x.strayed(0) + x.strayed(1), 0);
        }
    }

    private static void dueSound(PackHouse x, int a, int format, int most) {
        x.cut(3, 0);
        x.give(3, 2, 0x0506000000000000L);
        int n = x.read(3, a, format, most);
        boolean right = n >= 0 ? n <= most && x.size(3) == n && x.about(0) == x.size(a)
            : n > -21 && x.size(3) == 2 && x.byteAt(3, 1) == 6 && x.about(0) >= 0 && x.about(0) <= x.size(a);
        Checks.due("read " + format + " answered " + n + " at " + x.about(0), right, true);
    }

    private static void anyRows() {
        Random random = new Random(22);
        for (int turn = 0; turn < 4000; turn++) {
            PackHouse x = new PackHouse();
            byte[] noise = new byte[random.nextInt(60)];
            random.nextBytes(noise);
            for (int i = 0; i < noise.length; i++) {
                noise[i] &= (byte) (turn % 3 == 0 ? 255 : turn % 3 == 1 ? 7 : 131);
            }
            Checks.load(x, 0, Checks.join(MARKS[random.nextInt(MARKS.length)], noise));
            for (int format = 0; format < 5; format++) {
                dueSound(x, 0, format, random.nextBoolean() ? 65536 : random.nextInt(50));
            }
            x.learn(0);
            x.history(0);
            x.kind(0);
            dueSound(x, 0, random.nextInt(5), 65536);
        }
    }

    // Written rows with some bytes changed; the sums are left out where that can be.
    private static void spoiledRows() {
        Random random = new Random(23);
        for (int turn = 0; turn < 3000; turn++) {
            PackHouse x = new PackHouse();
            byte[] row = new byte[random.nextInt(turn % 20 == 0 ? 3000 : 250)];
            for (int i = 0; i < row.length; i++) {
                row[i] = (byte) (i > 20 && random.nextInt(5) > 0 ? row[i - 1 - random.nextInt(20)]
                    : random.nextInt(1 + turn % 256));
            }
            x.set(0, turn % 4);
            x.set(1, 3 + turn % 6);
            x.set(2, 1 + random.nextInt(300));
            x.set(3, 64);
            x.set(7, random.nextInt(8) * 2);
            int format = random.nextInt(6);
            Checks.load(x, 0, row);
            if (x.write(1, 0, format) < 1) {
                continue;
            }
            for (int k = 0; k < 8; k++) {
                int at = random.nextInt(x.size(1));
                x.cut(2, 0);
                x.join(2, 1, 0, at);
                x.give(2, 1, random.nextLong());
                x.join(2, 1, at + 1, x.size(1));
                if (format == 5) {
                    x.learn(2);
                    x.write(3, 0, 4);
                    Checks.due("strayed", x.strayed(0), 0);
                } else {
                    dueSound(x, 2, format, 65536);
                }
            }
        }
    }

    // Rows that make long chains of places to look at.
    private static void hardRows() {
        for (int form = 0; form < 4; form++) {
            byte[] row = new byte[16384];
            Random random = new Random(24);
            for (int i = 0; i < row.length; i++) {
                row[i] = (byte) (form == 0 ? 0 : form == 1 ? random.nextInt(2) : form == 2 ? i % 255 == 0 ? i / 255 : 1
                    : i % 97 == 0 ? random.nextInt(3) : i % 3);
            }
            for (int way = 0; way < 4; way++) {
                PackHouse x = new PackHouse();
                if (form == 0) {
                    Checks.load(x, 0, row);
                } else {
                    Checks.load(x, 1, States.frameOf(row));
                    Checks.due("read", x.read(0, 1, 4, 65536), row.length);
                }
                x.set(0, way);
                x.set(1, 3);
                for (int format = 0; format < 6; format++) {
                    x.write(1, 0, format);
                }
                Checks.due("strayed", x.strayed(0) + x.strayed(1), 0);
            }
        }
    }
}
