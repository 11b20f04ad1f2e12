import java.nio.file.Files;
import java.nio.file.Path;

/** Promise 18: larger rows, grown from a seed, with the answers of the same slow model as in RunsTest. */
public final class GrownTest {
    public static void main(String[] args) throws Exception {
        int line = 0;
        for (String row : Files.readAllLines(Path.of(System.getProperty("data"), "grown.txt"))) {
            line++;
            if (!row.startsWith("#")) {
                String[] sides = row.split(" = ");
                check("grown.txt " + line, numbers(sides[0]), numbers(sides[1]));
            }
        }
        Checks.end("GrownTest");
    }

    private static long[] numbers(String s) {
        String[] words = s.split(" ");
        long[] v = new long[words.length];
        for (int i = 0; i < v.length; i++) {
            v[i] = Long.parseLong(words[i]);
        }
        return v;
    }

    private static void check(String name, long[] given, long[] due) {
        PackHouse x = new PackHouse();
        for (int i = 0; i < 10; i++) {
            Checks.due(name + ": set", x.set(i, (int) given[6 + i]), true);
        }
        if (given[5] > 0) {
            Checks.load(x, 1, grow((int) given[0], (int) given[1], (int) given[5], (int) given[3] + 1));
            x.write(1, 1, 5);
            x.learn(1);
        }
        Checks.load(x, 0, grow((int) given[0], (int) given[1], (int) given[2], (int) given[3]));
        Checks.due(name, x.write(2, 0, (int) given[4]), due[0]);
        Checks.due(name + ": WIDE SUM", due[0] < 0 ? 0 : x.wide(2, 0, x.size(2), 0), due[1]);
        for (int i = 2; i < due.length; i++) {
            Checks.due(name + ": about " + (i - 1), x.about(i - 1), due[i]);
        }
        Checks.due(name + ": strayed", x.strayed(0) + x.strayed(1), 0);
    }

    private static byte[] grow(int kind, int m, int n, int seed) {
        byte[] b = new byte[n + 60];
        int at = 0;
        int x = seed;
        for (int turn = 0; at < n; turn++) {
            x = x * 1103515245 + 12345 & 0x7FFFFFFF;
            int v = x >> 7;
            if (kind == 0) {
                b[at++] = (byte) (v % m);
            } else if (kind == 1) {
                b[at++] = (byte) (v % m * (v / m % m) / m);
            } else if (kind == 2 && at >= 8 && v % 4 != 0) {
                int d = 1 + (v >> 3) % Math.min(at, 700);
                for (int i = 0; i < 1 + (v >> 13) % 24; i++) {
                    b[at] = b[at - d];
                    at++;
                }
            } else if (kind == 2) {
                b[at++] = (byte) ((v >> 4) % m);
            } else if (kind == 4 && at >= 90) {
                // Matches of many lengths, two other bytes between them.
                for (int i = 0; i < 3 + turn % 50; i++) {
                    b[at] = b[turn % 7 + i];
                    at++;
                }
                b[at++] = (byte) v;
                b[at++] = (byte) (v >> 8);
            } else if (kind == 4) {
                b[at++] = (byte) v;
            } else {
                for (int i = 0; i < 1 + (v >> 8) % 40; i++) {
                    b[at++] = (byte) (v % m);
                }
            }
        }
        return java.util.Arrays.copyOf(b, n);
    }
}
