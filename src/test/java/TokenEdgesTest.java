/** Promises 18 and 19 in FORMATS 0 and 1: each boundary that I. TOKENS names, on it and on both sides of it. */
public final class TokenEdgesTest {
    private static final byte[] MAGIC = Checks.bytes(4, 34, 77, 24);
    private static final byte[] END = new byte[4];
    private static final byte[] NONE = new byte[0];
    private static final int ALONE = 32;
    private static final int SUMS = 16;
    private static final int SIZED = 8;
    private static final int SUM = 4;
    private static final int KEYED = 1;

    public static void main(String[] args) {
        addedToLiterals();
        addedToCopies();
        cutBlocks();
        nothingMayBe();
        distances();
        farHistory();
        faultsOfOneSequence();
        flags();
        sizesOfBlocks();
        sumsOfHeads();
        blocksOfMany();
        tellSize();
        spareBytes();
        cutFrames();
        cutAtTheLimit();
        flagsWritten();
        lookedAtAheadOfTheCut();
        historiesOfFrames();
        secondFrames();
        matchesAtTheEnd();
        matchesOfFour();
        rowsOfCut();
        notFewer();
        Checks.end("TokenEdgesTest");
    }

    // What follows a TOKEN's 15: 255 as often as can be, then the rest.
    private static byte[] added(int v) {
        if (v < 15) {
            return NONE;
        }
        return Checks.join(Checks.same(255, (v - 15) / 255), Checks.bytes((v - 15) % 255));
    }

    static byte[] sequence(byte[] literals, int distance, int length) {
        return Checks.join(Checks.bytes(Math.min(15, literals.length) << 4 | Math.min(15, length - 4)),
            added(literals.length), literals, Checks.number(distance, 2), added(length - 4));
    }

    static byte[] last(byte[] literals) {
        return Checks.join(Checks.bytes(Math.min(15, literals.length) << 4), added(literals.length), literals);
    }

    private static byte[] unlike(int n) {
        byte[] b = new byte[n];
        for (int i = 0; i < n; i++) {
            b[i] = (byte) (i * (7 + 4 * (i / 256)));
        }
        return b;
    }

    private static void addedToLiterals() {
        for (int n : new int[] {0, 1, 14, 15, 16, 269, 270, 271, 524, 525, 526, 3000}) {
            byte[] row = unlike(n);
            byte[] block = last(row);
            Checks.dueRead(n + " literals", new PackHouse(), 0, block, n, row);
            Checks.dueRead(n + " literals, more may be", new PackHouse(), 0, block, 65536, row);
            if (n > 0) {
                Checks.dueFault(n + " literals, one less may be", new PackHouse(), 0, block, n - 1, 3,
                    block.length - 1);
                Checks.dueFault(n + " literals, the last one lacks", new PackHouse(), 0,
                    Checks.part(block, 0, block.length - 1), 65536, 1, block.length - 1);
                Checks.dueFault("a DISTANCE's second byte lacks", new PackHouse(), 0, Checks.join(block, Checks.bytes(1)), 65536,
                    1, block.length + 1);
            }
        }
        PackHouse x = new PackHouse();
        Checks.dueFault("a byte to be added lacks", x, 0, Checks.bytes(0xF0), 65536, 1, 1);
        Checks.dueFault("another one lacks", x, 0, Checks.bytes(0xF0, 255, 255), 65536, 1, 3);
        Checks.dueFault("added before the literals are looked for", x, 0, Checks.bytes(0xF0, 255), 0, 1, 2);
        byte[] row = unlike(270);
        Checks.dueWritten("269 literals", x, 0, Checks.part(row, 0, 269), last(Checks.part(row, 0, 269)));
        Checks.dueWritten("14 literals", x, 0, Checks.part(row, 0, 14), last(Checks.part(row, 0, 14)));
    }

    private static void addedToCopies() {
        for (int n : new int[] {4, 5, 18, 19, 20, 273, 274, 275, 528, 529, 530, 65535}) {
            PackHouse x = new PackHouse();
            byte[] block = Checks.join(sequence(Checks.bytes(8), 1, n), Checks.bytes(0));
            Checks.dueRead("a copy of " + n, x, 0, block, n + 1, Checks.same(8, n + 1));
            Checks.dueFault("a copy of " + n + ", one less may be", x, 0, block, n, 3, 2);
            Checks.dueFault("a copy of " + n + ", no TOKEN behind it", x, 0, Checks.part(block, 0, block.length - 1), 65536,
                1, block.length - 1);
            if (n >= 19) {
                int short1 = block.length - 2;
                Checks.dueFault("a byte to be added lacks", x, 0, Checks.part(block, 0, short1), 65536, 1, short1);
            }
            if (n < 600) {
                Checks.dueWritten("a match of " + n, x, 0, Checks.same(8, n + 6 < 13 ? 13 : n + 6),
                    Checks.join(sequence(Checks.bytes(8), 1, Math.max(7, n)), last(Checks.same(8, 5))));
            }
        }
        PackHouse x = new PackHouse();
        byte[] over = Checks.join(sequence(Checks.bytes(8), 1, 65536), Checks.bytes(0));
        Checks.dueFault("65537 bytes", x, 0, over, 65536, 3, 2);
    }

    // A block that is cut anywhere: where its literals end it is whole, elsewhere something has to come.
    private static void cutBlocks() {
        byte[] block = Checks.join(sequence(Checks.bytes(1, 2), 2, 19), sequence(NONE, 1, 4), last(Checks.bytes(3)));
        byte[] all = Checks.join(Checks.bytes(1, 2, 1, 2, 1, 2, 1, 2, 1, 2, 1, 2, 1, 2, 1, 2, 1, 2, 1, 2, 1), Checks.same(1, 4),
            Checks.bytes(3));
        int[] ends = {3, 7, 11};
        int[] sizes = {2, 21, 26};
        for (int n = 0; n <= block.length; n++) {
            int whole = -1;
            for (int i = 0; i < 3; i++) {
                whole = ends[i] == n ? sizes[i] : whole;
            }
            byte[] cut = Checks.part(block, 0, n);
            byte[] inFrame = frame(64, 64, NONE, packed(64, cut), plain(64, Checks.bytes(9)));
            if (whole >= 0) {
                Checks.dueRead("cut at " + n, new PackHouse(), 0, cut, whole, Checks.part(all, 0, whole));
                Checks.dueRead("cut at " + n + " in a frame", new PackHouse(), 1, inFrame, whole + 1,
                    Checks.join(Checks.part(all, 0, whole), Checks.bytes(9)));
            } else {
                Checks.dueFault("cut at " + n, new PackHouse(), 0, cut, 65536, 1, n);
                // A block of no bytes would be the frame's end.
                Checks.dueFault("cut at " + n + " in a frame", new PackHouse(), 1, inFrame, 65536, n == 0 ? 4 : 9, 11 + n);
            }
        }
    }

    private static void nothingMayBe() {
        PackHouse x = new PackHouse();
        for (int b = 0; b < 16; b++) {
            Checks.dueRead("a TOKEN alone, b " + b, x, 0, Checks.bytes(b), 0, NONE);
        }
        Checks.dueFault("one literal", x, 0, Checks.bytes(0x10, 9), 0, 3, 1);
        Checks.load(x, 0, Checks.same(5, 4));
        x.history(0);
        for (int most = 0; most < 4; most++) {
            Checks.dueFault("a copy", x, 0, Checks.bytes(0, 1, 0, 0), most, 3, 1);
        }
        Checks.dueRead("a copy that may be", x, 0, Checks.bytes(0, 1, 0, 0), 4, Checks.same(5, 4));
    }

    private static void distances() {
        for (int past : new int[] {0, 1, 5, 300}) {
            for (int n : new int[] {0, 1, 14, 255, 256}) {
                PackHouse x = new PackHouse();
                byte[] history = unlike(past);
                Checks.load(x, 0, history);
                x.history(0);
                byte[] row = Checks.same(77, n);
                byte[] all = Checks.join(history, row);
                int at = last(row).length;
                Checks.dueFault("DISTANCE 0", x, 0, Checks.join(sequence(row, 0, 4), Checks.bytes(0)), 65536, 2, at);
                Checks.dueFault("one too far", x, 0, Checks.join(sequence(row, past + n + 1, 4), Checks.bytes(0)), 65536,
                    2, at);
                Checks.dueFault("far too far", x, 0, Checks.join(sequence(row, 65535, 4), Checks.bytes(0)), 65536, 2, at);
                if (past + n > 0) {
                    byte[] first = new byte[4];
                    for (int i = 0; i < 4; i++) {
                        first[i] = all[i % all.length];
                    }
                    Checks.dueRead("the first byte", x, 0, Checks.join(sequence(row, past + n, 4), Checks.bytes(0)), n + 4,
                        Checks.join(row, first));
                }
            }
        }
    }

    private static void farHistory() {
        PackHouse x = new PackHouse();
        Checks.load(x, 0, Checks.join(Checks.bytes(1, 2, 3, 4), Checks.same(9, 65530)));
        x.history(0);
        byte[] far = Checks.bytes(0, 255, 255, 0);
        Checks.dueFault("65535 behind 65534 bytes", x, 0, far, 9, 2, 1);
        Checks.load(x, 0, Checks.join(Checks.bytes(1, 2, 3, 4), Checks.same(9, 65531)));
        x.history(0);
        Checks.dueRead("65535 behind as many", x, 0, far, 9, Checks.bytes(1, 2, 3, 4));
        Checks.load(x, 0, Checks.join(Checks.bytes(1, 2, 3, 4), Checks.same(9, 65532)));
        x.history(0);
        Checks.due("HISTORY", x.about(18), 65536);
        Checks.dueRead("65535 behind one more", x, 0, far, 9, Checks.bytes(2, 3, 4, 9));
        Checks.load(x, 0, Checks.bytes(5));
        Checks.due("no row is written behind so many", x.write(1, 0, 0), -1);
        Checks.due("nor a frame", x.write(1, 0, 1), -1);
        x.forget(0);
        Checks.dueFault("forgotten", x, 0, far, 9, 2, 1);
    }

    // Of two faults the one that comes first.
    private static void faultsOfOneSequence() {
        PackHouse x = new PackHouse();
        Checks.dueFault("a literal too many, then one that lacks", x, 0, Checks.bytes(0x40, 1, 2, 3), 2, 3, 3);
        Checks.dueFault("a literal that lacks where it would be too many", x, 0, Checks.bytes(0x40, 1, 2, 3), 3, 1, 4);
        Checks.dueFault("a literal that lacks first", x, 0, Checks.bytes(0x50, 1, 2, 3), 4, 1, 4);
        Checks.dueFault("DISTANCE 0, then a copy too long", x, 0, Checks.bytes(0x10, 1, 0, 0, 0), 1, 2, 2);
        Checks.dueFault("DISTANCE, then a byte that lacks", x, 0, Checks.bytes(0x1F, 1, 0, 0), 1, 2, 2);
        Checks.dueFault("a byte that lacks, then a copy too long", x, 0, Checks.bytes(0x1F, 1, 1, 0, 255), 1, 1, 5);
        Checks.dueFault("half a DISTANCE of 0", x, 0, Checks.bytes(0x10, 1, 0), 1, 1, 3);
        Checks.dueFault("the second sequence's DISTANCE", x, 0, Checks.bytes(0x10, 1, 1, 0, 0x10, 2, 7, 0, 0), 65536, 2, 6);
        Checks.dueRead("the second's reaches the first byte", x, 0, Checks.bytes(0x10, 1, 1, 0, 0x10, 2, 6, 0, 0), 65536,
            Checks.bytes(1, 1, 1, 1, 1, 2, 1, 1, 1, 1));
    }

    private static byte[] head(int flags, int behind, byte[]... more) {
        byte[] told = Checks.join(Checks.bytes(flags, behind), Checks.join(more));
        return Checks.join(MAGIC, told, Checks.bytes(Checks.narrow(told, 0) >>> 8));
    }

    private static byte[] sum(byte[] b) {
        return Checks.number(Checks.narrow(b, 0), 4);
    }

    private static byte[] block(int flags, long told, byte[] bytes) {
        return Checks.join(Checks.number(told, 4), bytes, (flags & SUMS) != 0 ? sum(bytes) : NONE);
    }

    private static byte[] plain(int flags, byte[] bytes) {
        return block(flags, 1L << 31 | bytes.length, bytes);
    }

    private static byte[] packed(int flags, byte[] bytes) {
        return block(flags, bytes.length, bytes);
    }

    private static byte[] frame(int flags, int behind, byte[] content, byte[]... blocks) {
        byte[] size = (flags & SIZED) != 0 ? Checks.number(content.length, 8) : NONE;
        byte[] key = (flags & KEYED) != 0 ? Checks.number(0xFEDCBA98L, 4) : NONE;
        return Checks.join(head(flags, behind, size, key), Checks.join(blocks), END,
            (flags & SUM) != 0 ? sum(content) : NONE);
    }

    private static boolean areFlags(int v) {
        return (v & 64) != 0 && (v & 128) == 0 && (v & 2) == 0;
    }

    // Each byte there is, as FLAGS and behind them.
    private static void flags() {
        byte[] abc = Checks.text("abc");
        for (int v = 0; v < 256; v++) {
            PackHouse x = new PackHouse();
            byte[] one = frame(v, 64, abc, plain(v, abc));
            if (areFlags(v)) {
                Checks.dueRead("FLAGS " + v, x, 1, one, 3, abc);
            } else {
                Checks.dueFault("FLAGS " + v, x, 1, one, 3, 5, 4);
            }
            Checks.due("set FLAGS " + v, x.set(3, v), areFlags(v));
            byte[] other = frame(64, v, abc, plain(64, abc));
            if (v == 64 || v == 80 || v == 96 || v == 112) {
                Checks.dueRead("behind FLAGS " + v, x, 1, other, 3, abc);
            } else {
                Checks.dueFault("behind FLAGS " + v, x, 1, other, 3, 5, 5);
            }
            Checks.dueFault("both", x, 1, frame(2, v, abc, plain(2, abc)), 3, 5, 4);
        }
    }

    private static void sizesOfBlocks() {
        for (int k = 4; k <= 7; k++) {
            PackHouse x = new PackHouse();
            long most = 1L << 8 + 2 * k;
            byte[] h = head(64, 16 * k);
            for (long high : new long[] {0, 1L << 31}) {
                Checks.dueFault("as many as may be, but cut", x, 1, Checks.join(h, Checks.number(high | most, 4)), 9, 1, 11);
                Checks.dueFault("one less, but cut", x, 1, Checks.join(h, Checks.number(high | most - 1, 4)), 9, 1, 11);
                Checks.dueFault("one more", x, 1, Checks.join(h, Checks.number(high | most + 1, 4)), 9, 7, 7);
                Checks.dueFault("one more, not all of it", x, 1, Checks.join(h, Checks.number(high | most + 1, 3)), 9, 1,
                    10);
                Checks.dueFault("2^31 - 1", x, 1, Checks.join(h, Checks.number(high | 0x7FFFFFFFL, 4), END), 9, 7, 7);
            }
            Checks.dueFault("m 1, but cut", x, 1, Checks.join(h, Checks.number(1, 4)), 9, 1, 11);
            Checks.dueRead("m 1", x, 1, Checks.join(h, Checks.number(1, 4), Checks.bytes(0), END), 0, NONE);
            Checks.dueRead("m 0 with 2^31", x, 1, Checks.join(h, Checks.number(1L << 31, 4), END), 0, NONE);
            Checks.dueRead("no blocks", x, 1, Checks.join(h, END), 0, NONE);
        }
        PackHouse x = new PackHouse();
        Checks.dueRead("m 0 with 2^31 and its sum", x, 1, frame(80, 64, NONE, plain(80, NONE)), 0, NONE);
        byte[] wrong = Checks.with(frame(80, 64, NONE, plain(80, NONE)), 11, 6);
        Checks.dueFault("and another sum", x, 1, wrong, 0, 8, 11);
    }

    private static void sumsOfHeads() {
        byte[] abc = Checks.text("abc");
        for (int flags : new int[] {64, 72, 65, 73, 125}) {
            byte[] one = frame(flags, 112, abc, plain(flags, abc));
            int at = 6 + ((flags & SIZED) != 0 ? 8 : 0) + ((flags & KEYED) != 0 ? 4 : 0);
            PackHouse x = new PackHouse();
            for (int more : new int[] {1, 128, 255}) {
                Checks.dueFault("the sum's byte", x, 1, Checks.with(one, at, one[at] + more), 9, 6, at);
                byte[] cut = Checks.part(Checks.with(one, at, one[at] + more), 0, at + 1);
                Checks.dueFault("the sum's byte, nothing behind it", x, 1, cut, 9, 6, at);
            }
            Checks.dueFault("it is not there", x, 1, Checks.part(one, 0, at), 9, 1, at);
            for (int i = 6; i < at; i++) {
                byte[] other = Checks.with(one, i, one[i] + 3);
                boolean seen = (byte) (Checks.narrow(Checks.part(other, 4, at), 0) >>> 8) != one[at];
                Checks.due("that one byte of a sum can see it", seen, true);
                Checks.dueFault("a byte it is of", x, 1, other, 9, 6, at);
            }
        }
    }

    // 65,536 bytes in all, in one block and in several, and one more.
    private static void blocksOfMany() {
        PackHouse x = new PackHouse();
        byte[] many = Checks.join(sequence(Checks.bytes(6), 1, 65535), Checks.bytes(0));
        Checks.dueRead("65536 of one block", x, 1, frame(64, 64, NONE, packed(64, many)), 65536, Checks.same(6, 65536));
        Checks.dueFault("one less may be", x, 1, frame(64, 64, NONE, packed(64, many)), 65535, 3, 7 + 4 + 2);
        byte[] more = Checks.join(sequence(Checks.bytes(6), 1, 65536), Checks.bytes(0));
        Checks.dueFault("65537 of one block", x, 1, frame(64, 112, NONE, packed(64, more)), 65536, 3, 7 + 4 + 2);
        byte[] less = Checks.join(sequence(Checks.bytes(6), 1, 65532), Checks.bytes(0));
        byte[] first = packed(64, less);
        Checks.dueRead("three more bytes that stand for themselves", x, 1,
            frame(64, 64, NONE, first, plain(64, Checks.same(6, 3))), 65536, Checks.same(6, 65536));
        Checks.dueFault("four more", x, 1, frame(64, 64, NONE, first, plain(64, Checks.same(6, 4))), 65536, 3,
            7 + first.length + 4 + 3);
        byte[] block = packed(64, last(Checks.same(6, 4)));
        Checks.dueFault("four more literals", x, 1, frame(64, 64, NONE, first, block), 65536, 3,
            7 + first.length + 4 + 1 + 3);
        byte[] full = frame(64, 64, NONE, packed(64, many));
        byte[] one = frame(64, 64, NONE, plain(64, Checks.bytes(1)));
        Checks.dueFault("one more byte of a second frame", x, 1, Checks.join(full, one), 65536, 3, full.length + 11);
        Checks.dueRead("a second frame without bytes", x, 1, Checks.join(full, frame(64, 64, NONE)), 65536,
            Checks.same(6, 65536));
    }

    private static void tellSize() {
        byte[] abc = Checks.text("abc");
        PackHouse x = new PackHouse();
        for (long size : new long[] {2, 4, 0, 259, 1L << 32 | 3, 1L << 63 | 3, -1, 1L << 56 | 3}) {
            for (int flags : new int[] {72, 76}) {
                byte[] one = Checks.join(head(flags, 64, Checks.number(size, 8)), plain(64, abc), END,
                    flags == 76 ? sum(abc) : NONE);
                Checks.dueFault("SIZE " + size, x, 1, one, 3, 11, 6);
            }
        }
        byte[] right = frame(72, 64, abc, plain(64, abc));
        Checks.dueRead("SIZE 3", x, 1, right, 3, abc);
        Checks.dueRead("SIZE 0", x, 1, frame(72, 64, NONE), 0, NONE);
        byte[] other = Checks.join(head(76, 64, Checks.number(4, 8)), plain(64, abc), END, Checks.number(5, 4));
        Checks.dueFault("the sum comes first", x, 1, other, 3, 10, 6 + 8 + 1 + 7 + 4);
        byte[] two = Checks.join(right, head(72, 64, Checks.number(6, 8)), plain(64, abc), END);
        Checks.dueFault("SIZE of the second frame is of its own content", x, 1, two, 9, 11, right.length + 6);
        byte[] wrong = Checks.join(right, frame(76, 64, Checks.text("abcabc"), plain(64, abc)));
        Checks.dueFault("so is its sum", x, 1, wrong, 9, 10, wrong.length - 4);
    }

    private static byte[] spare(int first, long told, int n) {
        return Checks.join(Checks.bytes(first, 42, 77, 24), Checks.number(told, 4), new byte[n]);
    }

    private static void spareBytes() {
        byte[] abc = Checks.text("abc");
        byte[] one = frame(64, 64, abc, plain(64, abc));
        for (int first = 78; first < 98; first++) {
            PackHouse x = new PackHouse();
            byte[] both = Checks.join(spare(first, 2, 2), one);
            if (first >= 80 && first <= 95) {
                Checks.dueRead("spare " + first, x, 1, both, 3, abc);
            } else {
                Checks.dueFault("spare " + first, x, 1, both, 3, 4, 0);
            }
        }
        PackHouse x = new PackHouse();
        for (int i = 1; i < 4; i++) {
            byte[] s = spare(85, 0, 0);
            Checks.dueFault("no spare bytes", x, 1, Checks.join(one, Checks.with(s, i, s[i] + 1)), 3, 4, one.length);
            Checks.dueFault("no frame", x, 1, Checks.join(spare(85, 3, 3), Checks.with(MAGIC, i, MAGIC[i] + 1)), 3, 4, 11);
        }
        for (int n = 0; n < 3; n++) {
            Checks.dueRead("as many as told", x, 1, Checks.join(one, spare(85, n, n)), 3, abc);
            Checks.dueFault("one too few", x, 1, Checks.join(one, spare(85, n + 1, n)), 3, 1, one.length + 8 + n);
            Checks.dueFault("one too many", x, 1, Checks.join(one, spare(85, n, n + 1)), 3, 1, one.length + 8 + n + 1);
        }
        for (long told : new long[] {1L << 31, (1L << 32) - 1, (1L << 32) - 8, (1L << 31) - 1, 1L << 31 | 8}) {
            Checks.dueFault("far too few", x, 1, Checks.join(spare(80, told, 2), one), 3, 1, 10 + one.length);
        }
        for (int n = 1; n < 8; n++) {
            Checks.dueFault("spare bytes that are cut", x, 1, Checks.part(spare(95, 0, 0), 0, n), 3, 1, n);
        }
        Checks.dueRead("spare bytes alone", x, 1, spare(95, 0, 0), 0, NONE);
    }

    // With each of the 32 FLAGS, cut at each place, and whole with another one behind it.
    private static void cutFrames() {
        for (int v = 64; v < 128; v++) {
            if (!areFlags(v)) {
                continue;
            }
            // Unless ALONE the second block copies the first one.
            boolean alone = (v & ALONE) != 0;
            byte[] content = Checks.text(alone ? "abcdeaaaaaa" : "abcdeabcde");
            byte[] second = Checks.join(alone ? sequence(Checks.bytes(97), 1, 5) : sequence(NONE, 5, 5), Checks.bytes(0));
            byte[] all = frame(v, 80, content, plain(v, Checks.text("abcde")), packed(v, second));
            Checks.dueRead("FLAGS " + v, new PackHouse(), 1, all, content.length, content);
            Checks.dueRead("FLAGS " + v + ", thrice", new PackHouse(), 1, Checks.join(all, all, all), 3 * content.length,
                Checks.join(content, content, content));
            for (int n = 1; n < all.length; n++) {
                Checks.dueFault("FLAGS " + v + ", cut at " + n, new PackHouse(), 1, Checks.part(all, 0, n), 11, 1, n);
            }
        }
    }

    // Rows of 256 and 65,536 bytes: spare bytes, and as much of a frame as there is room for.
    private static void cutAtTheLimit() {
        byte[] content = Checks.text("abcdeabcde");
        byte[] second = Checks.join(sequence(NONE, 5, 5), Checks.bytes(0));
        byte[] all = frame(93, 64, content, plain(93, Checks.text("abcde")), packed(93, second));
        for (int n : new int[] {256, 1024, 65536}) {
            for (int cut = 0; cut <= all.length; cut++) {
                byte[] row = Checks.join(spare(80, n - 8 - cut, n - 8 - cut), Checks.part(all, 0, cut));
                if (cut == 0 || cut == all.length) {
                    Checks.dueRead("a full row", new PackHouse(), 1, row, 10, cut == 0 ? NONE : content);
                } else {
                    Checks.dueFault(cut + " bytes at the end of " + n, new PackHouse(), 1, row, 10, 1, n);
                }
            }
            for (int cut = 1; cut < 8; cut++) {
                byte[] row = Checks.join(spare(80, n - 8 - cut, n - 8 - cut), Checks.part(spare(90, 0, 0), 0, cut));
                Checks.dueFault(cut + " spare bytes at the end of " + n, new PackHouse(), 1, row, 10, 1, n);
            }
            // A block: literals, and what has to come behind them.
            byte[] tail = Checks.bytes(1, 0);
            for (int cut = 1; cut <= 2; cut++) {
                int m = n - 1 - added(n).length - cut;
                byte[] row = Checks.join(last(Checks.same(7, m)), Checks.part(tail, 0, cut));
                Checks.dueFault("at the end of a block of " + row.length, new PackHouse(), 0, row, 65536, 1, row.length);
            }
        }
    }

    // Each of the 32 FLAGS, two rows of which the second is said in the first.
    private static void flagsWritten() {
        byte[] said = Checks.text("what is said twice is said");
        for (int v = 64; v < 128; v++) {
            if (!areFlags(v)) {
                continue;
            }
            PackHouse x = new PackHouse();
            x.set(2, said.length);
            x.set(3, v);
            x.set(5, 0xFEDCBA98);
            byte[] match = Checks.join(sequence(NONE, said.length, said.length - 5), last(Checks.text(" said")));
            byte[] row = Checks.join(said, said);
            Checks.dueWritten("FLAGS " + v, x, 1, row, frame(v, 64, row, plain(v, said),
                (v & ALONE) != 0 ? plain(v, said) : packed(v, match)));
        }
    }

    private static void lookedAtAheadOfTheCut() {
        PackHouse x = new PackHouse();
        for (int n = 1; n < 4; n++) {
            Checks.dueFault(n + " bytes that begin no frame", x, 1, Checks.same(9, n), 9, 1, n);
        }
        Checks.dueFault("four", x, 1, Checks.same(9, 4), 9, 4, 0);
        Checks.dueFault("FLAGS", x, 1, Checks.join(MAGIC, Checks.bytes(66)), 9, 5, 4);
        Checks.dueFault("the byte behind FLAGS", x, 1, Checks.join(MAGIC, Checks.bytes(64, 48)), 9, 5, 5);
        Checks.dueFault("FLAGS that may be", x, 1, Checks.join(MAGIC, Checks.bytes(64)), 9, 1, 5);
        Checks.dueFault("the byte behind FLAGS that may be", x, 1, Checks.join(MAGIC, Checks.bytes(64, 64)), 9, 1, 6);
        byte[] bad = Checks.bytes(0x10, 1, 0, 0, 0);
        byte[] whole = Checks.join(head(64, 64), packed(64, bad));
        Checks.dueFault("a block that is there", x, 1, whole, 9, 2, 13);
        Checks.dueFault("one that is cut", x, 1, Checks.part(whole, 0, whole.length - 1), 9, 1, whole.length - 1);
        byte[] summed = Checks.join(head(80, 64), Checks.number(5, 4), bad, Checks.number(1, 4));
        for (int n = 11; n < summed.length; n++) {
            Checks.dueFault("one whose sum is cut", x, 1, Checks.part(summed, 0, n), 9, 1, n);
        }
        Checks.dueFault("the sum that is there", x, 1, summed, 9, 8, 16);
        byte[] long9 = Checks.join(head(64, 64), plain(64, Checks.same(1, 9)));
        Checks.dueFault("too many that are cut", x, 1, Checks.part(long9, 0, long9.length - 1), 3, 1, long9.length - 1);
        Checks.dueFault("too many that are there", x, 1, long9, 3, 3, 14);
        byte[] abc = Checks.text("abc");
        byte[] other = Checks.join(head(76, 64, Checks.number(4, 8)), plain(64, abc), END, Checks.number(5, 4));
        for (int n = other.length - 4; n < other.length; n++) {
            Checks.dueFault("the content's sum that is cut, SIZE too", x, 1, Checks.part(other, 0, n), 9, 1, n);
        }
    }

    // With HISTORY of two bytes: what the second block may reach.
    private static void historiesOfFrames() {
        byte[] abc = Checks.text("abc");
        for (int flags : new int[] {64, 64 | ALONE}) {
            int so = flags == 64 ? 2 + 3 + 1 : 2 + 1;
            PackHouse x = new PackHouse();
            Checks.load(x, 0, Checks.text("yz"));
            x.history(0);
            byte[] all = Checks.text(flags == 64 ? "yzabc!" : "yz!");
            byte[] copy = new byte[4];
            for (int i = 0; i < 4; i++) {
                copy[i] = all[i % all.length];
            }
            byte[] block = Checks.join(sequence(Checks.bytes(33), so, 4), Checks.bytes(0));
            Checks.dueRead("as far as may be", x, 1, frame(flags, 64, NONE, plain(flags, abc), packed(flags, block)), 99,
                Checks.join(abc, Checks.bytes(33), copy));
            byte[] far = Checks.join(sequence(Checks.bytes(33), so + 1, 4), Checks.bytes(0));
            Checks.dueFault("one further", x, 1, frame(flags, 64, NONE, plain(flags, abc), packed(flags, far)), 99, 2,
                7 + 7 + 4 + 2);
        }
    }

    // The content of a frame before is no HISTORY, but HISTORY is.
    private static void secondFrames() {
        byte[] abc = Checks.text("abc");
        byte[] one = frame(64, 64, abc, plain(64, abc));
        for (int far = 3; far <= 4; far++) {
            PackHouse x = new PackHouse();
            Checks.load(x, 0, Checks.text("yz"));
            x.history(0);
            byte[] two = frame(64, 64, NONE, packed(64, Checks.join(sequence(Checks.bytes(33), far, 4), Checks.bytes(0))));
            if (far == 3) {
                Checks.dueRead("HISTORY", x, 1, Checks.join(one, two), 99, Checks.text("abc!yz!y"));
            } else {
                Checks.dueFault("one further", x, 1, Checks.join(one, two), 99, 2, one.length + 7 + 4 + 2);
            }
        }
    }

    // 12 bytes at a beginning that come again m bytes before the end: none begins behind n - 12, nor ends behind n - 5.
    private static void matchesAtTheEnd() {
        byte[] said = Checks.text("wxyzabcdefghijklmnop");
        byte[] filler = unlike(40);
        for (int way = 0; way < 4; way++) {
            for (int again = 4; again <= 20; again++) {
                byte[] row = Checks.join(said, filler, Checks.part(said, 0, again));
                int p = 60;
                int n = row.length;
                PackHouse x = new PackHouse();
                x.set(0, way);
                byte[] want;
                if (p <= n - 12) {
                    int length = n - 5 - p;
                    want = Checks.join(sequence(Checks.part(row, 0, p), 60, length), last(Checks.part(row, n - 5, n)));
                } else {
                    want = last(row);
                }
                Checks.dueWritten("way " + way + ", " + again + " at the end", x, 0, row, want);
            }
        }
    }

    private static void matchesOfFour() {
        byte[] said = Checks.text("wxyzabcdefghijklmnop");
        byte[] tail = Checks.text("0123456789!?");
        for (int way = 0; way < 4; way++) {
            for (int again = 2; again <= 9; again++) {
                byte[] row = Checks.join(said, Checks.text("-+*"), Checks.part(said, 5, 5 + again), tail);
                PackHouse x = new PackHouse();
                x.set(0, way);
                byte[] want = again < 4 ? last(row)
                    : Checks.join(sequence(Checks.part(row, 0, 23), 18, again), last(tail));
                Checks.dueWritten("way " + way + ", " + again + " bytes again", x, 0, row, want);
            }
        }
        // Three bytes of HISTORY and one behind it are a match of four, HISTORY's first byte in it.
        for (int m = 3; m <= 5; m++) {
            PackHouse x = new PackHouse();
            Checks.load(x, 0, Checks.part(said, 0, m));
            x.history(0);
            byte[] row = Checks.join(Checks.part(said, 0, m), tail);
            byte[] want = m < 4 ? last(row) : Checks.join(sequence(NONE, m, m), last(tail));
            Checks.dueWritten(m + " bytes of HISTORY", x, 0, row, want);
        }
        PackHouse x = new PackHouse();
        Checks.load(x, 0, Checks.text("ab"));
        x.history(0);
        byte[] row = Checks.join(Checks.text("ababab"), tail);
        Checks.dueWritten("HISTORY runs on", x, 0, row, Checks.join(sequence(NONE, 2, 6), last(tail)));
    }

    private static void rowsOfCut() {
        for (int n = 0; n <= 9; n++) {
            byte[] row = unlike(n);
            for (int cut : new int[] {1, 2, 3, 4, 8, 9, 10, 65535, 65536}) {
                PackHouse x = new PackHouse();
                x.set(2, cut);
                byte[] blocks = NONE;
                for (int at = 0; at < n; at += cut) {
                    blocks = Checks.join(blocks, plain(64, Checks.part(row, at, Math.min(n, at + cut))));
                }
                Checks.dueWritten(n + " bytes, CUT " + cut, x, 1, row, frame(100, 64, row, blocks));
            }
        }
    }

    // A match of four takes away one byte less than two TOKENS and a DISTANCE bring; one of five as many.
    private static void notFewer() {
        byte[] tail = Checks.text("0123456789!?");
        for (int again = 4; again <= 7; again++) {
            byte[] said = Checks.part(Checks.text("wxyzabc"), 0, again);
            byte[] row = Checks.join(said, Checks.text("-+"), said, Checks.part(tail, 0, 12));
            byte[] block = Checks.join(sequence(Checks.part(row, 0, again + 2), again + 2, again), last(tail));
            Checks.due("how many bytes", block.length - row.length, 4 - again);
            PackHouse x = new PackHouse();
            Checks.dueWritten(again + " bytes again", x, 1, row, frame(100, 64, row,
                block.length < row.length ? packed(64, block) : plain(64, row)));
            Checks.dueWritten("the block alone", x, 0, row, block);
        }
    }
}
