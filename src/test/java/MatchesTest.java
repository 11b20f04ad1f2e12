import java.io.ByteArrayOutputStream;
import java.util.Random;

/** Promise 18's MATCHES: all four WAYS, by looking at each place before each place. */
public final class MatchesTest {
    private static byte[] data;
    private static int end;
    private static int lastStart;
    private static int length;
    private static int distance;

    public static void main(String[] args) {
        Random random = new Random(1);
        for (int turn = 0; turn < 400; turn++) {
            byte[] past = row(random, turn % 3 == 0 ? random.nextInt(60) : 0);
            byte[] row = row(random, random.nextInt(turn % 40 == 0 ? 2500 : 200));
            for (int way = 0; way < 4; way++) {
                PackHouse x = new PackHouse();
                x.set(0, way);
                Checks.load(x, 0, past);
                x.history(0);
                Checks.load(x, 0, row);
                x.write(1, 0, 0);
                Checks.dueRow("tokens, turn " + turn + ", way " + way, x, 1, tokens(past, row, way));
                x.write(1, 0, 2);
                Checks.dueRow("tags, turn " + turn + ", way " + way, x, 1, tags(row, way));
            }
        }
        edges();
        lastStarts();
        frames();
        streams();
        Checks.end("MatchesTest");
    }

    // What each WAY finds in a row: literals, length and distance of each match.
    private static void due(String row, int way, int... steps) {
        data = Checks.text(row);
        ByteArrayOutputStream out = new ByteArrayOutputStream();
        out.write(data.length);
        int at = 0;
        for (int i = 0; i < steps.length; i += 3) {
            literals(out, at, at + steps[i]);
            copies(out, steps[i + 1], steps[i + 2]);
            at += steps[i] + steps[i + 1];
        }
        literals(out, at, data.length);
        PackHouse x = new PackHouse();
        x.set(0, way);
        Checks.dueWritten(row + ", way " + way, x, 2, Checks.text(row), out.toByteArray());
    }

    private static void edges() {
        for (int way = 0; way < 4; way++) {
            due("abc0abc", way);
            due("abcd0abcd", way, 5, 4, 5);
            due("abcd0abc1abcd", way, 9, 4, 9);
            due("abcdef01abcdef23abcdef", way, 8, 6, 8, 2, 6, 8);
            due("abcd0bcde1abcde", way, 10, 4, 10);
            due("aaaa", way);
            due("aaaaa", way, 1, 4, 1);
            due("ababab", way, 2, 4, 2);
            due("ababa", way);
        }
        String eight = "abcdefgh01abcdefg23abcdefgh";
        due(eight, 0, 10, 7, 10, 2, 7, 9);
        due(eight, 1, 10, 7, 10, 2, 8, 19);
        due(eight, 2, 10, 7, 10, 2, 8, 19);
        due(eight, 3, 10, 7, 10, 2, 8, 19);
        String seven = "abcdefg01abcdef23abcdefg";
        due(seven, 0, 9, 6, 9, 2, 6, 8);
        due(seven, 1, 9, 6, 9, 2, 6, 8);
        due(seven, 2, 9, 6, 9, 2, 7, 17);
        due(seven, 3, 9, 6, 9, 2, 7, 17);
        String nine = "abcdefghi0abcdefgh1abcdefgh2abcdefghi";
        due(nine, 0, 10, 8, 10, 1, 8, 9, 1, 8, 9);
        due(nine, 1, 10, 8, 10, 1, 8, 9, 1, 8, 9);
        due(nine, 2, 10, 8, 10, 1, 8, 9, 1, 9, 28);
        String later = "abcd0bcdef1abcdef";
        due(later, 0, 11, 4, 11);
        due(later, 1, 11, 4, 11);
        due(later, 2, 11, 4, 11);
        due(later, 3, 12, 5, 7);
        due("abcd0bcdef1cdefgh2abcdefgh", 3, 11, 4, 5, 5, 6, 9);
        due("abcd0bcdef1cdefgh2abcdefgh", 2, 11, 4, 5, 3, 4, 18, 0, 4, 9);
    }

    // In tokens none begins behind n - 12: so none there makes WAY 3 wait.
    private static void lastStarts() {
        for (int way = 0; way < 4; way++) {
            PackHouse x = new PackHouse();
            x.set(0, way);
            byte[] row = Checks.text("abcd0bcdefgh1abcdefghWXYZ");
            Checks.dueWritten("none may begin at p + 1", x, 0, row, Checks.join(Checks.bytes(0xD0),
                Checks.text("abcd0bcdefgh1"), Checks.bytes(13, 0, 0x80), Checks.text("efghWXYZ")));
        }
        PackHouse x = new PackHouse();
        x.set(0, 3);
        byte[] row = Checks.text("abcd0bcdefgh1abcdefghWXYZ!");
        Checks.dueWritten("one may begin there", x, 0, row, Checks.join(Checks.bytes(0xE3),
            Checks.text("abcd0bcdefgh1a"), Checks.bytes(9, 0, 0x50), Checks.text("WXYZ!")));
        x.set(0, 2);
        Checks.dueWritten("way 2 does not wait", x, 0, row, Checks.join(Checks.bytes(0xD0),
            Checks.text("abcd0bcdefgh1"), Checks.bytes(13, 0, 0x90), Checks.text("efghWXYZ!")));
    }

    private static byte[] row(Random random, int n) {
        byte[] b = new byte[n];
        int letters = 1 + random.nextInt(5);
        int period = 1 + random.nextInt(30);
        for (int i = 0; i < n; i++) {
            b[i] = (byte) (i >= period && random.nextInt(12) > 0 ? b[i - period] : random.nextInt(letters));
        }
        return b;
    }

    private static int common(int q, int p) {
        int n = 0;
        while (p + n < end && data[q + n] == data[p + n]) {
            n++;
        }
        return n;
    }

    private static boolean match(int p, int way) {
        length = 0;
        if (p > lastStart) {
            return false;
        }
        for (int q = p - 1; q >= 0; q--) {
            int n = common(q, p);
            boolean better = way >= 2 ? n > length : length == 0 || way == 1 && length < 8 && n >= 8;
            if (n >= 4 && better) {
                length = n;
                distance = p - q;
            }
        }
        if (way == 3 && length > 0) {
            int n = length;
            int d = distance;
            boolean later = match(p + 1, 2) && length > n;
            length = later ? 0 : n;
            distance = d;
        }
        return length > 0;
    }

    // Frames of tokens in rows of CUT bytes, behind HISTORY, ALONE or not.
    private static void frames() {
        Random random = new Random(2);
        for (int turn = 0; turn < 150; turn++) {
            byte[] past = row(random, turn % 2 == 0 ? random.nextInt(60) : 0);
            byte[] row = row(random, random.nextInt(300));
            int cut = 1 + random.nextInt(120);
            int way = turn % 4;
            boolean alone = turn % 3 == 0;
            PackHouse x = new PackHouse();
            Checks.load(x, 0, past);
            x.history(0);
            x.set(0, way);
            x.set(2, cut);
            x.set(3, alone ? 96 : 64);
            byte[] head = Checks.bytes(alone ? 96 : 64, 64);
            byte[] want = Checks.join(Checks.bytes(4, 34, 77, 24), head, Checks.bytes(Checks.narrow(head, 0) >>> 8));
            for (int at = 0; at < row.length; at += cut) {
                byte[] part = Checks.part(row, at, Math.min(row.length, at + cut));
                byte[] block = tokens(alone ? past : Checks.join(past, Checks.part(row, 0, at)), part, way);
                boolean fewer = block.length < part.length;
                want = Checks.join(want, Checks.number(fewer ? block.length : 1L << 31 | part.length, 4), fewer ? block : part);
            }
            Checks.dueWritten("frames, turn " + turn, x, 1, row, Checks.join(want, new byte[4]));
        }
    }

    // Streams of tags in rows of CUT bytes.
    private static void streams() {
        Random random = new Random(3);
        for (int turn = 0; turn < 150; turn++) {
            byte[] row = row(random, random.nextInt(300));
            int cut = 1 + random.nextInt(120);
            int way = turn % 4;
            PackHouse x = new PackHouse();
            x.set(0, way);
            x.set(2, cut);
            byte[] want = Checks.bytes(255, 6, 0, 0, 115, 78, 97, 80, 112, 89);
            for (int at = 0; at < row.length; at += cut) {
                byte[] part = Checks.part(row, at, Math.min(row.length, at + cut));
                byte[] block = tags(part, way);
                boolean fewer = block.length < part.length;
                want = Checks.join(want, Checks.bytes(fewer ? 0 : 1), Checks.number(4 + (fewer ? block : part).length, 3),
                    Checks.number(Checks.masked(part), 4), fewer ? block : part);
            }
            Checks.dueWritten("streams, turn " + turn, x, 3, row, want);
        }
    }

    private static void rest(ByteArrayOutputStream out, int v) {
        if (v >= 15) {
            for (v -= 15; v >= 255; v -= 255) {
                out.write(255);
            }
            out.write(v);
        }
    }

    private static byte[] tokens(byte[] past, byte[] row, int way) {
        data = Checks.join(past, row);
        end = data.length - 5;
        lastStart = data.length - 12;
        ByteArrayOutputStream out = new ByteArrayOutputStream();
        int since = past.length;
        int p = since;
        while (p < data.length) {
            if (match(p, way)) {
                out.write(Math.min(15, p - since) << 4 | Math.min(15, length - 4));
                rest(out, p - since);
                out.write(data, since, p - since);
                out.write(distance);
                out.write(distance >> 8);
                rest(out, length - 4);
                p += length;
                since = p;
            } else {
                p++;
            }
        }
        out.write(Math.min(15, p - since) << 4);
        rest(out, p - since);
        out.write(data, since, p - since);
        return out.toByteArray();
    }

    private static byte[] tags(byte[] row, int way) {
        data = row;
        end = row.length;
        lastStart = row.length;
        ByteArrayOutputStream out = new ByteArrayOutputStream();
        for (int n = row.length; ; n >>= 7) {
            out.write(n < 128 ? n : n & 127 | 128);
            if (n < 128) {
                break;
            }
        }
        int since = 0;
        int p = 0;
        while (p < row.length) {
            if (match(p, way)) {
                literals(out, since, p);
                copies(out, length, distance);
                p += length;
                since = p;
            } else {
                p++;
            }
        }
        literals(out, since, p);
        return out.toByteArray();
    }

    private static void literals(ByteArrayOutputStream out, int from, int to) {
        int told = to - from - 1;
        if (told < 0) {
            return;
        }
        if (told < 60) {
            out.write(told << 2);
        } else {
            out.write(told < 256 ? 240 : 244);
            out.write(told);
            if (told >= 256) {
                out.write(told >> 8);
            }
        }
        out.write(data, from, to - from);
    }

    private static int price(int n, boolean near) {
        return near && n >= 4 && n <= 11 ? 2 : 3;
    }

    private static void copies(ByteArrayOutputStream out, int n, int d) {
        boolean near = d < 2048;
        int[] least = new int[n + 1];
        for (int i = 1; i <= n; i++) {
            least[i] = Integer.MAX_VALUE;
            for (int j = 1; j <= Math.min(64, i); j++) {
                least[i] = Math.min(least[i], price(j, near) + least[i - j]);
            }
        }
        for (int left = n; left > 0; ) {
            int j = Math.min(64, left);
            while (price(j, near) + least[left - j] != least[left]) {
                j--;
            }
            if (price(j, near) == 2) {
                out.write(1 | j - 4 << 2 | d >> 8 << 5);
                out.write(d);
            } else {
                out.write(2 | j - 1 << 2);
                out.write(d);
                out.write(d >> 8);
            }
            left -= j;
        }
    }
}
