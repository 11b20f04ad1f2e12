/** Each call that is refused, for each reason there is, one by one: its answer, and that all is as it was. */
public final class RefusalsTest {
    private static final int LOW = Integer.MIN_VALUE;
    private static final int HIGH = Integer.MAX_VALUE;
    private static final int[] NO_ROWS = {-1, 4, LOW, HIGH, 256, 65536};
    private static final byte[] PAST = Checks.text("what was said before is HISTORY");
    private static final byte[] SOURCE = Checks.text("what is said twice is said once, what is said once is not");
    private static byte[] formed;

    private interface Call {
        long answer(PackHouse x);
    }

    public static void main(String[] args) {
        rows();
        tooMany();
        wrapsAround();
        settings();
        pasts();
        learned();
        written();
        writtenTooMany();
        made();
        readings();
        opened();
        queries();
        Checks.end("RefusalsTest");
    }

    private static long yes(boolean b) {
        return b ? 1 : 0;
    }

    // Nothing is as at first: rows, SETTINGS, HISTORY, DICTIONARY, a frame written and one read with a fault.
    private static PackHouse ready() {
        PackHouse x = new PackHouse();
        x.set(9, 77);
        if (formed == null) {
            Checks.load(x, 0, SOURCE);
            x.write(1, 0, 5);
            formed = Checks.row(x, 1);
            x = new PackHouse();
            x.set(9, 77);
        }
        Checks.load(x, 0, formed);
        Checks.due("learn", x.learn(0), SOURCE.length);
        Checks.load(x, 0, PAST);
        x.history(0);
        x.set(5, -9);
        x.set(7, 9);
        Checks.load(x, 0, Checks.text("what is said once is said twice"));
        Checks.due("write", x.write(1, 0, 4) > 0, true);
        x.join(2, 1, 0, x.size(1) - 1);
        Checks.due("a fault", x.read(3, 2, 4, 65536), -1);
        x.give(3, 5, 0x0102030405060708L);
        return x;
    }

    private static void dueRefused(String what, long want, Call call) {
        dueRefused(what, ready(), want, call);
    }

    private static void dueRefused(String what, PackHouse x, long want, Call call) {
        long[] before = Checks.state(x);
        Checks.due(what, call.answer(x), want);
        Checks.dueState(what, x, before);
        stillKnown(what, x);
    }

    // HISTORY and DICTIONARY hold the same bytes: rows that copy their beginnings and ends say so.
    private static void stillKnown(String what, PackHouse x) {
        Checks.load(x, 0, Checks.bytes(0x04, PAST.length, 0, 0x10, 33));
        Checks.due(what + ": HISTORY", x.read(1, 0, 0, 65536), 9);
        Checks.dueRow(what + ": HISTORY", x, 1, Checks.join(Checks.part(PAST, 0, 8), Checks.bytes(33)));
        // One literal, then distance SOURCE.length + 1 by symbol 5: v has 32 and five bits; match length 5.
        byte[] frame = Checks.bytes(40, 181, 47, 253, 1, 80, 77, 8 * 8 + 5, 0, 0, 8, 33, 1, 84, 1, 5, 2,
            SOURCE.length + 1 + 3);
        Checks.load(x, 0, frame);
        Checks.due(what + ": DICTIONARY", x.read(1, 0, 4, 65536), 6);
        Checks.dueRow(what + ": DICTIONARY", x, 1, Checks.join(Checks.bytes(33), Checks.part(SOURCE, 0, 5)));
    }

    private static void rows() {
        for (int r : NO_ROWS) {
            dueRefused("feed " + r, 0, x -> yes(x.feed(r, 1, 2, 3, 4)));
            dueRefused("give " + r, 0, x -> yes(x.give(r, 8, 5)));
            dueRefused("again " + r, 0, x -> yes(x.again(r, 1, 1)));
            dueRefused("cut " + r, 0, x -> yes(x.cut(r, 0)));
            dueRefused("join to " + r, 0, x -> yes(x.join(r, 0, 0, 1)));
            dueRefused("join of " + r, 0, x -> yes(x.join(0, r, 0, 1)));
            dueRefused("join of no part of " + r, 0, x -> yes(x.join(0, r, 1, 0)));
        }
        for (int n : new int[] {0, 9, -1, LOW, HIGH, 16, 257, -8}) {
            dueRefused("give " + n + " bytes", 0, x -> yes(x.give(3, n, -1L)));
        }
        for (int m : new int[] {0, 6, -1, LOW, HIGH, 65536}) {
            dueRefused("again of the last " + m, 0, x -> yes(x.again(3, m, 1)));
            dueRefused("again of the last " + m + ", no times", 0, x -> yes(x.again(3, m, 0)));
        }
        for (int n : new int[] {-1, LOW, -65536}) {
            dueRefused("again " + n + " times", 0, x -> yes(x.again(3, 5, n)));
        }
        for (int n : new int[] {-1, 6, LOW, HIGH, 65536}) {
            dueRefused("cut to " + n, 0, x -> yes(x.cut(3, n)));
        }
        for (int m : new int[] {-1, 0, 1, 2}) {
            PackHouse x = ready();
            x.cut(3, 0);
            dueRefused("again of " + m + " of no bytes", x, 0, y -> yes(y.again(3, m, 1)));
        }
        PackHouse x = ready();
        x.cut(3, 0);
        dueRefused("cut to 1 of no bytes", x, 0, y -> yes(y.cut(3, 1)));
    }

    private static PackHouse filled(int n) {
        PackHouse x = ready();
        x.again(3, 1, n - 5);
        Checks.due("size", x.size(3), n);
        return x;
    }

    private static void tooMany() {
        dueRefused("feed with room for 15", filled(65521), 0, x -> yes(x.feed(3, 1, 2, 3, 4)));
        dueRefused("feed with no room", filled(65536), 0, x -> yes(x.feed(3, 1, 2, 3, 4)));
        for (int n = 1; n <= 8; n++) {
            int few = n;
            dueRefused("give " + n + " with room for less", filled(65537 - n), 0, x -> yes(x.give(3, few, -1L)));
        }
        dueRefused("again with room for one less", filled(65533), 0, x -> yes(x.again(3, 2, 2)));
        dueRefused("again once with no room", filled(65536), 0, x -> yes(x.again(3, 1, 1)));
        dueRefused("again of more than half", filled(32769), 0, x -> yes(x.again(3, 32769, 1)));
        dueRefused("join with room for one less", filled(65533), 0, x -> yes(x.join(3, 0, 1, 5)));
        dueRefused("join of itself", filled(32769), 0, x -> yes(x.join(3, 3, 0, 32769)));
        dueRefused("join of one with no room", filled(65536), 0, x -> yes(x.join(3, 3, 0, 1)));
    }

    // m * n would be few if numbers wrapped around at 2^32.
    private static void wrapsAround() {
        int[][] products = {{4, 1 << 30}, {2, HIGH}, {5, HIGH}, {3, 1431655766}, {1, HIGH}};
        for (int[] p : products) {
            dueRefused("again " + p[0] + ", " + p[1], 0, x -> yes(x.again(3, p[0], p[1])));
        }
        dueRefused("again 65536, 65536", filled(65536), 0, x -> yes(x.again(3, 65536, 65536)));
        dueRefused("again 32768, 131072", filled(32768), 0, x -> yes(x.again(3, 32768, 131072)));
    }

    private static void settings() {
        int[][] ranges = {{0, 0, 3}, {1, 3, 8}, {2, 1, 65536}, {4, 4, 7}, {6, 0, 255}, {7, 0, 15}, {8, 0, 11}};
        for (int[] range : ranges) {
            for (int v : new int[] {range[1] - 1, range[2] + 1, LOW, HIGH}) {
                dueRefused("set " + range[0] + " to " + v, 0, x -> yes(x.set(range[0], v)));
            }
        }
        for (int v : new int[] {0, 1, 63, 66, 102, 127, 128, 192, 228, -1, -64, LOW, HIGH, 64 + 256, 100 + 65536}) {
            dueRefused("set 3 to " + v, 0, x -> yes(x.set(3, v)));
        }
        for (int what : new int[] {-1, 10, LOW, HIGH, 256}) {
            dueRefused("set " + what, 0, x -> yes(x.set(what, 4)));
        }
    }

    private static void pasts() {
        for (int r : NO_ROWS) {
            dueRefused("history of " + r, 0, x -> yes(x.history(r)));
            dueRefused("learn of " + r, -5, x -> x.learn(r));
        }
        for (int what : new int[] {-1, 2, LOW, HIGH, 256, 257}) {
            dueRefused("forget " + what, 0, x -> yes(x.forget(what)));
        }
    }

    private static void dueUnlearned(String what, int want, byte[] row) {
        PackHouse x = ready();
        Checks.load(x, 2, row);
        dueRefused(what, x, want, y -> y.learn(2));
    }

    // A DICTIONARY that is not learned leaves the one that is there.
    private static void learned() {
        ready();
        int n = formed.length - SOURCE.length;
        dueUnlearned("the mark alone", -1, Checks.part(formed, 0, 4));
        dueUnlearned("an ID that is cut", -1, Checks.part(formed, 0, 7));
        dueUnlearned("no DESCRIPTION", -2, Checks.part(formed, 0, 8));
        dueUnlearned("no share", -3, Checks.join(Checks.part(formed, 0, 8), Checks.bytes(128, 0x10)));
        dueUnlearned("a share that is cut", -3, Checks.part(formed, 0, n - 13));
        dueUnlearned("no distances", -1, Checks.part(formed, 0, n - 12));
        dueUnlearned("distances that are cut", -1, Checks.part(formed, 0, n - 1));
        dueUnlearned("distances and no content", -4, Checks.part(formed, 0, n));
        dueUnlearned("the third is above the content", -4, Checks.part(formed, 0, n + 7));
        for (int i = 0; i < 3; i++) {
            dueUnlearned("a distance 0", -4, Checks.with(formed, n - 12 + 4 * i, 0));
            dueUnlearned("a distance above", -4, Checks.with(formed, n - 12 + 4 * i, SOURCE.length + 1));
            dueUnlearned("a distance without a sign", -4, Checks.with(formed, n - 9 + 4 * i, 255));
        }
    }

    private static void written() {
        for (int format = 0; format < 6; format++) {
            int f = format;
            for (int r : NO_ROWS) {
                dueRefused("write to " + r, -1, x -> x.write(r, 0, f));
                dueRefused("write of " + r, -1, x -> x.write(1, r, f));
            }
            // What is ahead counts for tokens (HISTORY) and for a frame of states (the DICTIONARY's content).
            int ahead = f < 2 ? PAST.length : f == 4 ? SOURCE.length : 0;
            PackHouse y = filled(16385 - ahead);
            dueRefused("write one too many in " + f, y, -1, x -> x.write(1, 3, f));
            PackHouse z = filled(16384 - ahead);
            Checks.due("write just as many in " + f, z.write(1, 3, f) > 0, true);
            dueRefused("write 65536 in " + f, filled(65536), -1, x -> x.write(1, 3, f));
        }
        for (int format : new int[] {-1, 6, LOW, HIGH, 256}) {
            dueRefused("write in " + format, -1, x -> x.write(1, 0, format));
        }
    }

    // CUT 1 makes each byte a block or chunk: 5 bytes of tokens, 9 and the spare ones of tags, 4 of states.
    private static void writtenTooMany() {
        int[][] ways = {
            // format, FLAGS of tokens, SPARE, FLAGS of states, bytes, what comes
            {1, 64, 0, 0, 13105, 65536}, {1, 64, 0, 0, 13106, -1}, {1, 77, 0, 0, 13102, -1}, {1, 77, 0, 0, 13101, 65532},
            {1, 80, 0, 0, 7280, 65531}, {1, 80, 0, 0, 7281, -1},
            {3, 64, 121, 0, 489, 65536}, {3, 64, 240, 0, 259, -1}, {3, 64, 240, 0, 258, 65284}, {3, 64, 121, 0, 490, -1},
            {3, 64, 0, 0, 7280, 65530}, {3, 64, 0, 0, 7281, -1},
            {4, 64, 0, 2, 16382, 65536}, {4, 64, 0, 3, 16382, -1}, {4, 64, 0, 3, 16381, 65536}, {4, 64, 0, 0, 16383, -1},
            {4, 64, 0, 4, 16383, -1}, {4, 64, 0, 4, 16382, 65535}};
        for (int[] way : ways) {
            PackHouse x = filled(way[4]);
            x.forget(0);
            x.forget(1);
            x.set(2, 1);
            x.set(3, way[1]);
            x.set(6, way[2]);
            x.set(7, way[3]);
            String what = way[4] + " bytes in " + way[0] + " with FLAGS " + way[1] + ", " + way[3];
            long[] before = Checks.state(x);
            Checks.due(what, x.write(1, 3, way[0]), way[5]);
            if (way[5] < 0) {
                Checks.dueState(what, x, before);
            } else {
                Checks.due(what + ": back again", x.read(2, 1, way[0], way[4]), way[4]);
                Checks.due(what + ": differ", x.differ(2, 3), -1);
            }
        }
        idOfOneByte();
    }

    // A dictionary of one byte of content, whose ID makes 65537 of 65536 bytes.
    private static void idOfOneByte() {
        PackHouse x = filled(16382);
        Checks.load(x, 2, Checks.join(Checks.bytes(55, 164, 48, 236, 200, 0, 0, 0, 128, 0x10), allOfOne(), allOfOne(),
            allOfOne(), Checks.number(1, 4), Checks.number(1, 4), Checks.number(1, 4), Checks.bytes(9)));
        Checks.due("learn", x.learn(2), 1);
        x.set(2, 1);
        x.set(7, 2);
        Checks.due("without the ID", x.write(1, 3, 4), 65536);
        x.set(7, 10);
        long[] before = Checks.state(x);
        Checks.due("with it", x.write(1, 3, 4), -1);
        Checks.dueState("with it", x, before);
    }

    // A share of order 5 whose symbol 0 has all 32 points: 0 in 4 bits, then 63 in 6.
    private static byte[] allOfOne() {
        return Checks.bytes(0xF0, 3);
    }

    private static void dueUnmade(String what, byte[] row) {
        PackHouse x = ready();
        Checks.load(x, 2, row);
        dueRefused(what, x, -1, y -> y.write(1, 2, 5));
    }

    private static void made() {
        dueUnmade("no bytes", new byte[0]);
        dueUnmade("7 bytes", Checks.text("abcdabc"));
        dueUnmade("8 bytes without sequences", Checks.text("abcdabce"));
        dueUnmade("one literal", Checks.same(97, 50));
        byte[] all = new byte[256];
        for (int i = 0; i < 256; i++) {
            all[i] = (byte) (77 * i);
        }
        dueUnmade("256 codes of the same length", Checks.join(all, Checks.part(all, 0, 20)));
        PackHouse x = ready();
        Checks.load(x, 2, Checks.text("abcdabcd"));
        Checks.due("8 bytes with a sequence", x.write(1, 2, 5) > 8, true);
        Checks.load(x, 2, Checks.text("abbbbbbb"));
        Checks.due("two literals", x.write(1, 2, 5) > 8, true);
    }

    private static void readings() {
        for (int format = 0; format < 5; format++) {
            int f = format;
            for (int r : NO_ROWS) {
                dueRefused("read to " + r, -50, x -> x.read(r, 0, f, 9));
                dueRefused("read of " + r, -50, x -> x.read(0, r, f, 9));
            }
            for (int most : new int[] {-1, 65537, LOW, HIGH}) {
                dueRefused("read with most " + most, -50, x -> x.read(0, 1, f, most));
            }
        }
        for (int format : new int[] {-1, 5, 6, LOW, HIGH}) {
            dueRefused("read in " + format, -50, x -> x.read(0, 1, format, 9));
        }
    }

    private static void opened() {
        for (int r : NO_ROWS) {
            dueRefused("open to " + r, -50, x -> x.open(r, 1, 9));
            dueRefused("open of " + r, -50, x -> x.open(1, r, 9));
            dueRefused("open to " + r + " of no kind", -50, x -> x.open(r, 0, 9));
        }
        for (int most : new int[] {-1, 65537, LOW, HIGH}) {
            dueRefused("open with most " + most, -50, x -> x.open(0, 1, most));
            dueRefused("open with most " + most + ", of no kind", -50, x -> x.open(1, 0, most));
        }
        dueRefused("open of no kind", -51, x -> x.open(1, 0, 9));
        PackHouse y = ready();
        Checks.load(y, 2, formed);
        dueRefused("open of a formed dictionary", y, -51, x -> x.open(1, 2, 65536));
        PackHouse z = ready();
        z.cut(2, 0);
        dueRefused("open of no bytes", z, -51, x -> x.open(1, 2, 65536));
        PackHouse s = ready();
        Checks.load(s, 2, Checks.bytes(80, 42, 77, 24, 1, 0, 0, 0, 9));
        dueRefused("open of spare bytes alone", s, -51, x -> x.open(1, 2, 65536));
    }

    // What only asks changes nothing, whatever it is asked.
    private static void queries() {
        for (int v : new int[] {-1, 0, 3, 4, 21, LOW, HIGH}) {
            boolean row = v >= 0 && v < 4;
            PackHouse x = ready();
            long[] before = Checks.state(x);
            x.size(v);
            x.byteAt(v, v);
            x.differ(v, 0);
            x.differ(0, v);
            x.get(v);
            x.narrow(v, 0, 5, 1);
            x.wide(v, 0, 5, 1);
            x.poly(v, 0, 5, true);
            x.kind(v);
            x.bound(v, v);
            x.about(v);
            x.strayed(v);
            Checks.dueState("asked with " + v, x, before);
            Checks.due("size " + v, x.size(v) == -1, !row);
            Checks.due("kind " + v, x.kind(v) == -1, !row);
            Checks.due("differ " + v, x.differ(v, v), row ? -1 : -2);
        }
    }
}
