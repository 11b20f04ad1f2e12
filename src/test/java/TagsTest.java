/** Promises 18 and 19 in FORMATS 2 and 3: blocks and streams of tags. */
public final class TagsTest {
    private static final byte[] MARK = Checks.bytes(255, 6, 0, 0, 115, 78, 97, 80, 112, 89);

    public static void main(String[] args) {
        writtenBlocks();
        copies();
        readBlocks();
        blockFaults();
        writtenStreams();
        readStreams();
        streamFaults();
        cutStreams();
        Checks.end("TagsTest");
    }

    private static byte[] rising(int n) {
        byte[] b = new byte[n];
        for (int i = 0; i < n; i++) {
            b[i] = (byte) (i < 256 ? i : i * 7 + i / 256);
        }
        return b;
    }

    private static void writtenBlocks() {
        PackHouse x = new PackHouse();
        Checks.dueWritten("no bytes", x, 2, new byte[0], Checks.bytes(0));
        Checks.dueWritten("one", x, 2, Checks.bytes(9), Checks.bytes(1, 0, 9));
        Checks.dueWritten("4 alike are no match", x, 2, Checks.same(9, 4), Checks.bytes(4, 12, 9, 9, 9, 9));
        Checks.dueWritten("5 alike", x, 2, Checks.same(9, 5), Checks.bytes(5, 0, 9, 1, 1));
        Checks.dueWritten("60 literals", x, 2, rising(60), Checks.join(Checks.bytes(60, 59 * 4), rising(60)));
        Checks.dueWritten("61 literals", x, 2, rising(61), Checks.join(Checks.bytes(61, 240, 60), rising(61)));
        Checks.dueWritten("256 literals", x, 2, rising(256), Checks.join(Checks.bytes(128, 2, 240, 255), rising(256)));
        Checks.dueWritten("257 literals", x, 2, rising(257), Checks.join(Checks.bytes(129, 2, 244, 0, 1), rising(257)));
    }

    // Bytes of one match at distance 1: the length and the copies that are due, k 1 below 12.
    private static void copies() {
        int[][] due = {{4, 4}, {11, 11}, {12, 12}, {64, 64}, {65, 61, 4}, {67, 63, 4}, {68, 64, 4}, {75, 64, 11},
            {76, 64, 12}, {128, 64, 64}, {129, 64, 61, 4}, {139, 64, 64, 11}, {140, 64, 64, 12}, {192, 64, 64, 64},
            {195, 64, 64, 63, 4}};
        PackHouse x = new PackHouse();
        for (int[] ways : due) {
            int n = ways[0] + 1;
            byte[] want = n < 128 ? Checks.bytes(n, 0, 7) : Checks.bytes(n & 127 | 128, n >> 7, 0, 7);
            for (int i = 1; i < ways.length; i++) {
                int m = ways[i];
                want = Checks.join(want, m < 12 ? Checks.bytes(1 | m - 4 << 2, 1) : Checks.bytes(2 | m - 1 << 2, 1, 0));
            }
            Checks.dueWritten("a match of " + ways[0], x, 2, Checks.same(7, n), want);
        }
        far();
    }

    private static void far() {
        dueFar(2047, 65, Checks.bytes(2 | 60 << 2, 255, 7, 1 | 7 << 5, 255));
        dueFar(2048, 65, Checks.bytes(2 | 63 << 2, 0, 8, 2, 0, 8));
        dueFar(2048, 66, Checks.bytes(2 | 63 << 2, 0, 8, 2 | 1 << 2, 0, 8));
        dueFar(2050, 68, Checks.bytes(2 | 63 << 2, 2, 8, 2 | 3 << 2, 2, 8));
    }

    private static void dueFar(int distance, int n, byte[] want) {
        PackHouse x = new PackHouse();
        byte[] random = new byte[distance - n];
        new java.util.Random(8).nextBytes(random);
        byte[] said = rising(n);
        byte[] row = Checks.join(said, random, said);
        Checks.load(x, 0, row);
        int size = x.write(1, 0, 2);
        x.cut(2, 0);
        x.join(2, 1, size - want.length, size);
        Checks.dueRow("copies of " + n + " at distance " + distance, x, 2, want);
        Checks.due("strayed", x.strayed(0), 0);
    }

    private static void readBlocks() {
        PackHouse x = new PackHouse();
        Checks.dueRead("LENGTH in more bytes than need be", x, 2, Checks.bytes(129, 128, 128, 128, 0, 0, 5), 1,
            Checks.bytes(5));
        for (int bytes = 1; bytes <= 4; bytes++) {
            byte[] row = Checks.join(Checks.bytes(3, 59 + bytes << 2), Checks.number(2, bytes), Checks.text("abc"));
            Checks.dueRead("literals told in " + bytes + " bytes", x, 2, row, 3, Checks.text("abc"));
        }
        Checks.dueRead("k 1", x, 2, Checks.bytes(13, 4, 1, 2, 1 | 7 << 2, 2), 13,
            Checks.bytes(1, 2, 1, 2, 1, 2, 1, 2, 1, 2, 1, 2, 1));
        Checks.dueRead("k 2 of one byte", x, 2, Checks.bytes(3, 4, 1, 2, 2, 2, 0), 3, Checks.bytes(1, 2, 1));
        Checks.dueRead("k 3", x, 2, Checks.bytes(4, 4, 1, 2, 3 | 1 << 2, 1, 0, 0, 0), 4, Checks.bytes(1, 2, 2, 2));
        byte[] far = Checks.join(Checks.bytes(132, 6, 244, 255, 2), Checks.same(1, 767), Checks.bytes(2),
            Checks.bytes(1 | 3 << 5, 0));
        Checks.dueRead("k 1 with 256 more", x, 2, far, 65536, Checks.join(Checks.same(1, 767), Checks.bytes(2),
            Checks.same(1, 4)));
    }

    private static void blockFaults() {
        PackHouse x = new PackHouse();
        Checks.dueFault("no LENGTH", x, 2, new byte[0], 9, 1, 0);
        Checks.dueFault("LENGTH ends", x, 2, Checks.bytes(128, 128), 9, 1, 2);
        Checks.dueFault("LENGTH's fifth byte", x, 2, Checks.bytes(128, 128, 128, 128, 16), 9, 2, 0);
        Checks.dueFault("LENGTH's fifth byte goes on", x, 2, Checks.bytes(128, 128, 128, 128, 128, 0), 9, 2, 0);
        Checks.dueFault("LENGTH below 2^32", x, 2, Checks.bytes(255, 255, 255, 255, 15), 65536, 3, 0);
        Checks.dueFault("LENGTH too great", x, 2, Checks.bytes(4, 12, 1, 2, 3, 4), 3, 3, 0);
        Checks.dueFault("fewer", x, 2, Checks.bytes(4, 8, 1, 2, 3), 9, 6, 5);
        Checks.dueFault("a length's byte lacks", x, 2, Checks.bytes(200, 1, 244, 1), 999, 1, 4);
        Checks.dueFault("a DISTANCE's byte lacks", x, 2, Checks.bytes(9, 0, 1, 2, 1), 9, 1, 5);
        Checks.dueFault("a LITERAL lacks", x, 2, Checks.bytes(9, 8, 1, 2), 9, 1, 4);
        Checks.dueFault("too many before LITERALS that lack", x, 2, Checks.bytes(2, 8, 1, 2), 9, 5, 1);
        Checks.dueFault("LITERALS of 2^32", x, 2, Checks.bytes(9, 252, 255, 255, 255, 255), 9, 5, 1);
        Checks.dueFault("DISTANCE 0", x, 2, Checks.bytes(9, 0, 1, 1, 0), 9, 4, 3);
        Checks.dueFault("DISTANCE too far", x, 2, Checks.bytes(9, 0, 1, 1, 2), 9, 4, 3);
        Checks.dueFault("DISTANCE of four bytes", x, 2, Checks.bytes(9, 0, 1, 3, 1, 0, 0, 128), 9, 4, 3);
        Checks.dueFault("DISTANCE before too many", x, 2, Checks.bytes(2, 0, 1, 1, 2), 9, 4, 3);
        Checks.dueFault("a copy of too many", x, 2, Checks.bytes(4, 0, 1, 1, 1), 9, 5, 3);
        Checks.dueFault("an element behind LENGTH bytes", x, 2, Checks.bytes(1, 0, 1, 0, 2), 9, 5, 3);
    }

    private static byte[] chunk(int kind, byte[]... parts) {
        byte[] all = Checks.join(parts);
        return Checks.join(Checks.bytes(kind), Checks.number(all.length, 3), all);
    }

    private static byte[] sum(byte[] b) {
        return Checks.number(Checks.masked(b), 4);
    }

    private static void writtenStreams() {
        PackHouse x = new PackHouse();
        Checks.dueWritten("no bytes", x, 3, new byte[0], MARK);
        byte[] a = Checks.same(97, 20);
        byte[] packed = chunk(0, sum(a), Checks.bytes(20, 0, 97, 2 | 18 << 2, 1, 0));
        byte[] plain = chunk(1, sum(Checks.text("0123")), Checks.text("0123"));
        x.set(2, 20);
        Checks.dueWritten("two chunks", x, 3, Checks.join(a, Checks.text("0123")), Checks.join(MARK, packed, plain));
        x.set(6, 2);
        byte[] spare = chunk(254, new byte[2]);
        Checks.dueWritten("spare bytes", x, 3, Checks.join(a, Checks.text("0123")),
            Checks.join(MARK, packed, spare, plain, spare));
        x.set(6, 255);
        x.set(2, 1);
        Checks.load(x, 0, Checks.same(3, 1000));
        Checks.due("more than a row would come", x.write(1, 0, 3), -1);
        Checks.load(x, 0, Checks.same(3, 16384));
        Checks.due("16384 bytes", x.write(1, 0, 2) > 0, true);
        x.give(0, 1, 0);
        Checks.due("16385 bytes", x.write(1, 0, 2), -1);
        Checks.due("16385 bytes", x.write(1, 0, 3), -1);
    }

    private static void readStreams() {
        PackHouse x = new PackHouse();
        byte[] abc = Checks.text("abc");
        byte[] plain = chunk(1, sum(abc), abc);
        byte[] packed = chunk(0, sum(abc), Checks.bytes(3, 8), abc);
        Checks.dueRead("no bytes", x, 3, new byte[0], 0, new byte[0]);
        Checks.dueRead("the mark alone", x, 3, MARK, 0, new byte[0]);
        Checks.dueRead("chunks", x, 3, Checks.join(MARK, plain, chunk(128), packed, MARK, chunk(253, abc), plain), 9,
            Checks.text("abcabcabc"));
        Checks.dueRead("bytes of no bytes", x, 3, Checks.join(MARK, chunk(1, sum(new byte[0])),
            chunk(0, sum(new byte[0]), Checks.bytes(0))), 0, new byte[0]);
    }

    private static void streamFaults() {
        PackHouse x = new PackHouse();
        byte[] abc = Checks.text("abc");
        byte[] plain = chunk(1, sum(abc), abc);
        byte[] packed = chunk(0, sum(abc), Checks.bytes(3, 8), abc);
        int at = MARK.length;
        Checks.dueFault("no mark", x, 3, plain, 9, 8, 0);
        Checks.dueFault("no mark, before the end", x, 3, Checks.bytes(0), 9, 8, 0);
        Checks.dueFault("no mark, before the kind", x, 3, Checks.bytes(2), 9, 8, 0);
        Checks.dueFault("another mark", x, 3, Checks.with(MARK, 9, 90), 9, 8, 0);
        Checks.dueFault("a longer mark", x, 3, chunk(255, Checks.text("sNaPpY!")), 9, 8, 0);
        Checks.dueFault("another mark that is cut", x, 3, Checks.part(Checks.with(MARK, 5, 1), 0, 9), 9, 7, 9);
        Checks.dueFault("another mark later on", x, 3, Checks.join(MARK, plain, chunk(255, abc)), 9, 8, at + 11);
        for (int kind : new int[] {2, 100, 127}) {
            Checks.dueFault("kind " + kind, x, 3, Checks.join(MARK, Checks.bytes(kind)), 9, 9, at);
        }
        Checks.dueFault("kind 128 that is cut", x, 3, Checks.join(MARK, Checks.bytes(128)), 9, 7, at + 1);
        Checks.dueFault("SIZE 3 with kind 0", x, 3, Checks.join(MARK, chunk(0, abc)), 9, 10, at);
        Checks.dueFault("SIZE 3 with kind 1", x, 3, Checks.join(MARK, chunk(1, abc)), 9, 10, at);
        Checks.dueFault("SIZE 3, but cut", x, 3, Checks.join(MARK, Checks.bytes(1, 3, 0, 0, 1)), 9, 7, at + 5);
        byte[] large = Checks.join(MARK, Checks.bytes(1, 5, 0, 1), new byte[65500]);
        Checks.dueFault("SIZE 65541, but cut", x, 3, large, 9, 7, large.length);
        Checks.dueFault("no LENGTH", x, 3, Checks.join(MARK, chunk(0, sum(abc))), 9, 12, at + 8);
        Checks.dueFault("LENGTH's fifth byte", x, 3, Checks.join(MARK, chunk(0, sum(abc), Checks.same(255, 5))), 9, 2,
            at + 8);
        Checks.dueFault("LENGTH too great", x, 3, Checks.join(MARK, plain, packed), 5, 3, at + 11 + 8);
        byte[] longest = chunk(0, sum(abc), Checks.bytes(129, 128, 4));
        Checks.dueFault("LENGTH above 65536", x, 3, Checks.join(MARK, longest), 65536, 3, at + 8);
        Checks.dueFault("a DISTANCE", x, 3, Checks.join(MARK, plain, chunk(0, sum(abc), Checks.bytes(9, 1, 1))), 99, 4,
            at + 11 + 9);
        Checks.dueFault("too many", x, 3, Checks.join(MARK, chunk(0, sum(abc), Checks.bytes(2, 8), abc)), 99, 5, at + 9);
        Checks.dueFault("too few", x, 3, Checks.join(MARK, chunk(0, sum(abc), Checks.bytes(4, 8), abc)), 99, 6, at + 13);
        Checks.dueFault("bytes lack", x, 3, Checks.join(MARK, chunk(0, sum(abc), Checks.bytes(4, 12), abc)), 99, 12,
            at + 13);
        Checks.dueFault("too many for itself", x, 3, Checks.join(MARK, plain, plain), 5, 3, at + 11 + 10);
        Checks.dueFault("the sum", x, 3, Checks.join(MARK, plain, Checks.with(plain, 4, plain[4] + 1)), 9, 11,
            at + 11 + 4);
        Checks.dueFault("the sum of a block", x, 3, Checks.join(MARK, Checks.with(packed, 7, packed[7] + 1)), 9, 11,
            at + 4);
        Checks.dueFault("too many before the sum", x, 3, Checks.join(MARK, Checks.with(plain, 4, plain[4] + 1)), 2, 3,
            at + 10);
    }

    private static void cutStreams() {
        byte[] abc = Checks.text("abcabcabcabc");
        byte[] all = Checks.join(MARK, chunk(1, sum(abc), abc), chunk(200, abc));
        for (int n = 1; n < all.length; n++) {
            PackHouse x = new PackHouse();
            if (n == 10 || n == 30) {
                Checks.dueRead("cut at " + n, x, 3, Checks.part(all, 0, n), 99, n == 10 ? new byte[0] : abc);
            } else {
                Checks.dueFault("cut at " + n, x, 3, Checks.part(all, 0, n), 99, 7, n);
            }
        }
    }
}
