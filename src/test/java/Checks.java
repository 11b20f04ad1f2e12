import java.nio.charset.StandardCharsets;

/** What all tests share: counting wrong answers, and rows to and from arrays. */
final class Checks {
    static int wrong = 0;
    static int asked = 0;

    private Checks() {
    }

    static void due(String what, long got, long want) {
        asked++;
        if (got != want) {
            wrong++;
            System.out.println(what + " answered " + got + ", due is " + want);
        }
    }

    static void due(String what, boolean got, boolean want) {
        due(what, got ? 1 : 0, want ? 1 : 0);
    }

    static void dueRow(String what, PackHouse x, int r, byte[] want) {
        due(what + ": size", x.size(r), want.length);
        int n = Math.min(want.length, Math.max(0, x.size(r)));
        int at = 0;
        while (at < n && x.byteAt(r, at) == (want[at] & 255)) {
            at++;
        }
        due(what + ": first byte that is not alike", at < n ? at : -1, -1);
    }

    // A reading that has to end with a fault at a place; row d must stay.
    static void dueFault(String what, PackHouse x, int format, byte[] row, int most, int fault, int place) {
        load(x, 1, row);
        load(x, 2, bytes(1, 2, 3));
        due(what, x.read(2, 1, format, most), -fault);
        due(what + ": PLACE", x.about(0), place);
        dueRow(what + ": row that stays", x, 2, bytes(1, 2, 3));
    }

    static void dueRead(String what, PackHouse x, int format, byte[] row, int most, byte[] want) {
        load(x, 1, row);
        due(what, x.read(2, 1, format, most), want.length);
        due(what + ": PLACE", x.about(0), row.length);
        dueRow(what, x, 2, want);
    }

    static void end(String name) {
        System.out.println(name + ": " + asked + " answers, " + wrong + " wrong");
        if (wrong != 0 || asked == 0) {
            System.exit(1);
        }
    }

    // Few calls: an object answers for 512 of them only.
    static void load(PackHouse x, int r, byte[] b) {
        x.cut(r, 0);
        int at = 0;
        while (at < b.length) {
            int n = Math.min(8, b.length - at);
            int same = 1;
            while (at + same < b.length && b[at + same] == b[at]) {
                same++;
            }
            if (same > 8) {
                x.give(r, 1, (long) b[at] << 56);
                x.again(r, 1, same - 1);
                at += same;
            } else if (b.length - at >= 16) {
                x.feed(r, four(b, at), four(b, at + 4), four(b, at + 8), four(b, at + 12));
                at += 16;
            } else {
                long eight = 0;
                for (int i = 0; i < 8; i++) {
                    eight = eight << 8 | (i < n ? b[at + i] & 255 : 0);
                }
                x.give(r, n, eight);
                at += n;
            }
        }
        if (x.size(r) != b.length) {
            due("bytes of a row that was loaded", x.size(r), b.length);
        }
    }

    private static int four(byte[] b, int at) {
        return (b[at] & 255) << 24 | (b[at + 1] & 255) << 16 | (b[at + 2] & 255) << 8 | b[at + 3] & 255;
    }

    static byte[] row(PackHouse x, int r) {
        byte[] b = new byte[x.size(r)];
        for (int i = 0; i < b.length; i++) {
            b[i] = (byte) x.byteAt(r, i);
        }
        return b;
    }

    static byte[] bytes(int... v) {
        byte[] b = new byte[v.length];
        for (int i = 0; i < v.length; i++) {
            b[i] = (byte) v[i];
        }
        return b;
    }

    static byte[] text(String s) {
        return s.getBytes(StandardCharsets.ISO_8859_1);
    }

    static byte[] same(int v, int n) {
        byte[] b = new byte[n];
        java.util.Arrays.fill(b, (byte) v);
        return b;
    }

    static byte[] number(long v, int n) {
        byte[] b = new byte[n];
        for (int i = 0; i < n; i++) {
            b[i] = (byte) (v >>> 8 * i);
        }
        return b;
    }

    static byte[] join(byte[]... parts) {
        int n = 0;
        for (byte[] p : parts) {
            n += p.length;
        }
        byte[] b = new byte[n];
        int at = 0;
        for (byte[] p : parts) {
            System.arraycopy(p, 0, b, at, p.length);
            at += p.length;
        }
        return b;
    }

    static byte[] part(byte[] b, int from, int to) {
        return java.util.Arrays.copyOfRange(b, from, to);
    }

    static byte[] with(byte[] b, int at, int v) {
        byte[] c = b.clone();
        c[at] = (byte) v;
        return c;
    }

    static byte[] hex(String s) {
        if (s.equals("-")) {
            return new byte[0];
        }
        byte[] b = new byte[s.length() / 2];
        for (int i = 0; i < b.length; i++) {
            b[i] = (byte) Integer.parseInt(s.substring(2 * i, 2 * i + 2), 16);
        }
        return b;
    }

    static int narrow(byte[] b, int seed) {
        PackHouse x = new PackHouse();
        load(x, 0, b);
        return x.narrow(0, 0, b.length, seed);
    }

    static long wide(byte[] b) {
        PackHouse x = new PackHouse();
        load(x, 0, b);
        return x.wide(0, 0, b.length, 0);
    }

    static int masked(byte[] b) {
        PackHouse x = new PackHouse();
        load(x, 0, b);
        return x.poly(0, 0, b.length, true);
    }
}
