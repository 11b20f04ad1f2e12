import java.nio.charset.StandardCharsets;
import java.util.zip.CRC32C;

/** What all tests share: counting wrong answers, and rows to and from arrays. */
final class Checks {
    static int wrong = 0;
    static int asked = 0;

    private Checks() {
    }

    static void due(String what, long got, long want) {
        asked++;
        if (got != want) {
            wrong++;
            System.out.println(what + " answered " + got + ", due is " + want);
        }
    }

    static void due(String what, boolean got, boolean want) {
        due(what, got ? 1 : 0, want ? 1 : 0);
    }

    // Two calls when it is right: an object answers for 512 of them only.
    static void dueRow(String what, PackHouse x, int r, byte[] want) {
        int n = x.size(r);
        due(what + ": size", n, want.length);
        boolean alike = n == want.length && x.wide(r, 0, n, 0) == wide(want);
        int at = 0;
        while (!alike && at < Math.min(n, want.length) && x.byteAt(r, at) == (want[at] & 255)) {
            at++;
        }
        due(what + ": first byte that is not alike", alike ? -1 : at, -1);
    }

    // A reading that has to end with a fault at a place; row d must stay.
    static void dueFault(String what, PackHouse x, int format, byte[] row, int most, int fault, int place) {
        load(x, 1, row);
        load(x, 2, bytes(1, 2, 3));
        due(what, x.read(2, 1, format, most), -fault);
        due(what + ": PLACE", x.about(0), place);
        dueRow(what + ": row that stays", x, 2, bytes(1, 2, 3));
    }

    static void dueWritten(String what, PackHouse x, int format, byte[] row, byte[] want) {
        load(x, 0, row);
        due(what, x.write(1, 0, format), want.length);
        dueRow(what, x, 1, want);
        due(what + ": strayed", x.strayed(0) + x.strayed(1), 0);
    }

    static void dueRead(String what, PackHouse x, int format, byte[] row, int most, byte[] want) {
        load(x, 1, row);
        due(what, x.read(2, 1, format, most), want.length);
        due(what + ": PLACE", x.about(0), row.length);
        dueRow(what, x, 2, want);
    }

    // All that can be asked without changing anything: rows, SETTINGS, what about() and strayed() tell.
    static long[] state(PackHouse x) {
        long[] v = new long[41];
        int k = 0;
        for (int r = 0; r < 4; r++) {
            v[k++] = x.size(r);
            v[k++] = x.wide(r, 0, x.size(r), 0);
        }
        for (int what = 0; what < 10; what++) {
            v[k++] = x.get(what);
        }
        for (int what = 0; what < 21; what++) {
            v[k++] = x.about(what);
        }
        v[k++] = x.strayed(0);
        v[k++] = x.strayed(1);
        return v;
    }

    static void dueState(String what, PackHouse x, long[] want) {
        due(what + ": all is as it was", java.util.Arrays.equals(state(x), want), true);
    }

    static void end(String name) {
        System.out.println(name + ": " + asked + " answers, " + wrong + " wrong");
        if (wrong != 0 || asked == 0) {
            System.exit(1);
        }
    }

    // Few calls: an object answers for 512 of them only.
    static void load(PackHouse x, int r, byte[] b) {
        x.cut(r, 0);
        int at = 0;
        while (at < b.length) {
            int n = Math.min(8, b.length - at);
            int same = 1;
            while (at + same < b.length && b[at + same] == b[at]) {
                same++;
            }
            if (same > 8) {
                x.give(r, 1, (long) b[at] << 56);
                x.again(r, 1, same - 1);
                at += same;
            } else if (b.length - at >= 16) {
                x.feed(r, four(b, at), four(b, at + 4), four(b, at + 8), four(b, at + 12));
                at += 16;
            } else {
                long eight = 0;
                for (int i = 0; i < 8; i++) {
                    eight = eight << 8 | (i < n ? b[at + i] & 255 : 0);
                }
                x.give(r, n, eight);
                at += n;
            }
        }
        if (x.size(r) != b.length) {
            due("bytes of a row that was loaded", x.size(r), b.length);
        }
    }

    private static int four(byte[] b, int at) {
        return (b[at] & 255) << 24 | (b[at + 1] & 255) << 16 | (b[at + 2] & 255) << 8 | b[at + 3] & 255;
    }

    static byte[] row(PackHouse x, int r) {
        byte[] b = new byte[x.size(r)];
        for (int i = 0; i < b.length; i++) {
            b[i] = (byte) x.byteAt(r, i);
        }
        return b;
    }

    static byte[] bytes(int... v) {
        byte[] b = new byte[v.length];
        for (int i = 0; i < v.length; i++) {
            b[i] = (byte) v[i];
        }
        return b;
    }

    static byte[] text(String s) {
        return s.getBytes(StandardCharsets.ISO_8859_1);
    }

    static byte[] same(int v, int n) {
        byte[] b = new byte[n];
        java.util.Arrays.fill(b, (byte) v);
        return b;
    }

    static byte[] number(long v, int n) {
        byte[] b = new byte[n];
        for (int i = 0; i < n; i++) {
            b[i] = (byte) (v >>> 8 * i);
        }
        return b;
    }

    static byte[] join(byte[]... parts) {
        int n = 0;
        for (byte[] p : parts) {
            n += p.length;
        }
        byte[] b = new byte[n];
        int at = 0;
        for (byte[] p : parts) {
            System.arraycopy(p, 0, b, at, p.length);
            at += p.length;
        }
        return b;
    }

    static byte[] part(byte[] b, int from, int to) {
        return java.util.Arrays.copyOfRange(b, from, to);
    }

    static byte[] with(byte[] b, int at, int v) {
        byte[] c = b.clone();
        c[at] = (byte) v;
        return c;
    }

    static byte[] hex(String s) {
        if (s.equals("-")) {
            return new byte[0];
        }
        byte[] b = new byte[s.length() / 2];
        for (int i = 0; i < b.length; i++) {
            b[i] = (byte) Integer.parseInt(s.substring(2 * i, 2 * i + 2), 16);
        }
        return b;
    }

    private static long le(byte[] b, int at, int n) {
        long v = 0;
        for (int i = 0; i < n; i++) {
            v |= (b[at + i] & 255L) << 8 * i;
        }
        return v;
    }

    // The sums, worked out apart from the program.
    static int narrow(byte[] b, int seed) {
        int[] p = {0, (int) 2654435761L, (int) 2246822519L, (int) 3266489917L, 668265263, 374761393};
        int at = 0;
        int h = seed + p[5];
        if (b.length >= 16) {
            int[] lanes = {seed + p[1] + p[2], seed + p[2], seed, seed - p[1]};
            int[] turns = {1, 7, 12, 18};
            for (; b.length - at >= 16; at += 16) {
                for (int i = 0; i < 4; i++) {
                    lanes[i] = Integer.rotateLeft(lanes[i] + (int) le(b, at + 4 * i, 4) * p[2], 13) * p[1];
                }
            }
            h = 0;
            for (int i = 0; i < 4; i++) {
                h += Integer.rotateLeft(lanes[i], turns[i]);
            }
        }
        h += b.length;
        for (; b.length - at >= 4; at += 4) {
            h = Integer.rotateLeft(h + (int) le(b, at, 4) * p[3], 17) * p[4];
        }
        for (; at < b.length; at++) {
            h = Integer.rotateLeft(h + (b[at] & 255) * p[5], 11) * p[1];
        }
        h = (h ^ (h >>> 15)) * p[2];
        h = (h ^ (h >>> 13)) * p[3];
        return h ^ (h >>> 16);
    }

    static long wide(byte[] b, long seed) {
        long[] q = {0, Long.parseUnsignedLong("11400714785074694791"), Long.parseUnsignedLong("14029467366897019727"),
            1609587929392839161L, Long.parseUnsignedLong("9650029242287828579"), 2870177450012600261L};
        int at = 0;
        long h = seed + q[5];
        if (b.length >= 32) {
            long[] lanes = {seed + q[1] + q[2], seed + q[2], seed, seed - q[1]};
            int[] turns = {1, 7, 12, 18};
            for (; b.length - at >= 32; at += 32) {
                for (int i = 0; i < 4; i++) {
                    lanes[i] = Long.rotateLeft(lanes[i] + le(b, at + 8 * i, 8) * q[2], 31) * q[1];
                }
            }
            h = 0;
            for (int i = 0; i < 4; i++) {
                h += Long.rotateLeft(lanes[i], turns[i]);
            }
            for (long lane : lanes) {
                h = (h ^ (Long.rotateLeft(lane * q[2], 31) * q[1])) * q[1] + q[4];
            }
        }
        h += b.length;
        for (; b.length - at >= 8; at += 8) {
            h = Long.rotateLeft(h ^ (Long.rotateLeft(le(b, at, 8) * q[2], 31) * q[1]), 27) * q[1] + q[4];
        }
        if (b.length - at >= 4) {
            h = Long.rotateLeft(h ^ (le(b, at, 4) * q[1]), 23) * q[2] + q[3];
            at += 4;
        }
        for (; at < b.length; at++) {
            h = Long.rotateLeft(h ^ ((b[at] & 255) * q[5]), 11) * q[1];
        }
        h = (h ^ (h >>> 33)) * q[2];
        h = (h ^ (h >>> 29)) * q[3];
        return h ^ (h >>> 32);
    }

    static long wide(byte[] b) {
        return wide(b, 0);
    }

    static int masked(byte[] b) {
        CRC32C sum = new CRC32C();
        sum.update(b, 0, b.length);
        return Integer.rotateLeft((int) sum.getValue(), 17) + (int) 2726488792L;
    }
}
