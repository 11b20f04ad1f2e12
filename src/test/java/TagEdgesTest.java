/** Promises 18 and 19 in FORMATS 2 and 3: each boundary that II. TAGS names, on it and on both sides of it. */
public final class TagEdgesTest {
    private static final byte[] MARK = Checks.bytes(255, 6, 0, 0, 115, 78, 97, 80, 112, 89);
    private static final byte[] NONE = new byte[0];
    private static final byte[] ABC = Checks.text("abc");

    public static void main(String[] args) {
        lengths();
        fifthByte();
        literals();
        literalsByNumbers();
        shortCopies();
        longCopies();
        farCopies();
        order();
        cutBlocks();
        kinds();
        sizes();
        marks();
        many();
        sums();
        cutStreams();
        cutAtTheLimit();
        lengthsWritten();
        matchesWritten();
        rowsOfCut();
        spareChunks();
        notFewer();
        Checks.end("TagEdgesTest");
    }

    private static byte[] length(long n) {
        byte[] b = NONE;
        for (long rest = n; ; rest >>>= 7) {
            b = Checks.join(b, Checks.bytes((int) (rest < 128 ? rest : rest & 127 | 128)));
            if (rest < 128) {
                return b;
            }
        }
    }

    private static byte[] literal(byte[] b) {
        int told = b.length - 1;
        return told < 60 ? Checks.join(Checks.bytes(told << 2), b)
            : told < 256 ? Checks.join(Checks.bytes(240, told), b)
            : Checks.join(Checks.bytes(244), Checks.number(told, 2), b);
    }

    private static byte[] short1(int n, int distance) {
        return Checks.bytes(1 | n - 4 << 2 | distance >> 8 << 5, distance);
    }

    private static byte[] long2(int n, int distance) {
        return Checks.bytes(2 | n - 1 << 2, distance, distance >> 8);
    }

    private static byte[] long3(int n, long distance) {
        return Checks.join(Checks.bytes(3 | n - 1 << 2), Checks.number(distance, 4));
    }

    // Elements that come to n bytes v, n above 0.
    private static byte[] elements(int v, int n) {
        byte[] b = new byte[2 + 3 * ((n + 62) / 64)];
        b[1] = (byte) v;
        int at = 2;
        for (int left = n - 1; left > 0; left -= 64) {
            b[at] = (byte) (2 | Math.min(64, left) - 1 << 2);
            b[at + 1] = 1;
            at += 3;
        }
        return b;
    }

    // The bytes of elements() come three by three: as rows they are loaded in few calls by again().
    private static void load(PackHouse x, int r, byte[] head, int v, int n, byte[] tail) {
        Checks.load(x, r, Checks.join(head, Checks.bytes(0, v)));
        if (n > 64) {
            Checks.due("copies", x.give(r, 3, 0xFE01000000000000L) && x.again(r, 3, (n - 1) / 64 - 1), true);
        }
        byte[] rest = (n - 1) % 64 > 0 ? Checks.bytes(2 | (n - 1) % 64 - 1 << 2, 1, 0) : NONE;
        Checks.load(x, 3, Checks.join(rest, tail));
        x.join(r, 3, 0, x.size(3));
    }

    private static void lengths() {
        for (int n : new int[] {1, 2, 127, 128, 129, 16383, 16384, 16385, 65535, 65536}) {
            PackHouse x = new PackHouse();
            load(x, 1, length(n), 7, n, NONE);
            Checks.due(n + " bytes", x.read(2, 1, 2, n), n);
            Checks.due("PLACE", x.about(0), x.size(1));
            Checks.dueRow(n + " bytes", x, 2, Checks.same(7, n));
            Checks.due("one less may be", x.read(2, 1, 2, n - 1), -3);
            Checks.due("PLACE", x.about(0), 0);
            load(x, 1, length(n - 1), 7, n, NONE);
            Checks.due("an element leads to one more", x.read(2, 1, 2, 65536), -5);
            Checks.due("PLACE is the last element", x.about(0), x.size(1) - (n == 1 ? 2 : 3));
            load(x, 1, length(n + 1), 7, n, NONE);
            Checks.due("one fewer", x.read(2, 1, 2, 65536), n == 65536 ? -3 : -6);
            Checks.due("PLACE is the end", x.about(0), n == 65536 ? 0 : x.size(1));
        }
        PackHouse x = new PackHouse();
        Checks.dueRead("none", x, 2, Checks.bytes(0), 0, NONE);
        for (int more = 1; more < 5; more++) {
            byte[] zeros = Checks.join(Checks.same(128, more), Checks.bytes(0));
            Checks.dueRead("none, told in " + (more + 1) + " bytes", x, 2, zeros, 0, NONE);
            Checks.dueFault("a byte lacks", x, 2, Checks.same(128, more), 9, 1, more);
        }
    }

    private static void fifthByte() {
        PackHouse x = new PackHouse();
        for (int v : new int[] {1, 2, 14, 15}) {
            Checks.dueFault("a fifth byte " + v, x, 2, Checks.join(Checks.same(128, 4), Checks.bytes(v)), 65536, 3, 0);
            Checks.dueFault("a fifth byte " + v, x, 2, Checks.join(Checks.same(255, 4), Checks.bytes(v)), 65536, 3, 0);
        }
        for (int v : new int[] {16, 17, 31, 127, 128, 143, 144, 255}) {
            Checks.dueFault("a fifth byte " + v, x, 2, Checks.join(Checks.same(128, 4), Checks.bytes(v)), 65536, 2, 0);
            Checks.dueFault("and more", x, 2, Checks.join(Checks.same(128, 4), Checks.bytes(v, 0, 0)), 65536, 2, 0);
        }
    }

    private static byte[] unlike(int n) {
        byte[] b = new byte[n];
        for (int i = 0; i < n; i++) {
            b[i] = (byte) (i * (7 + 4 * (i / 256)));
        }
        return b;
    }

    private static void dueElement(String what, byte[] element, byte[] row) {
        int n = row.length;
        PackHouse x = new PackHouse();
        byte[] told = length(n);
        Checks.dueRead(what, x, 2, Checks.join(told, element), n, row);
        byte[] cut = Checks.part(element, 0, element.length - 1);
        Checks.dueFault(what + ", the last one lacks", x, 2, Checks.join(told, cut), n, 1, told.length + cut.length);
        Checks.dueFault(what + ", one less is told", x, 2, Checks.join(length(n - 1), element), n, 5, length(n - 1).length);
        Checks.dueFault(what + ", one less is told, and one lacks", x, 2, Checks.join(length(n - 1), cut), n, 5,
            length(n - 1).length);
        Checks.dueFault(what + ", one more is told", x, 2, Checks.join(length(n + 1), element), n + 1, 6,
            length(n + 1).length + element.length);
    }

    // m below 60 tells one less than there are; 60 .. 63 tell how many bytes tell it.
    private static void literals() {
        for (int n = 1; n <= 60; n++) {
            byte[] row = unlike(n);
            dueElement(n + " literals", Checks.join(Checks.bytes(n - 1 << 2), row), row);
        }
        for (int bytes = 1; bytes <= 4; bytes++) {
            for (int n : new int[] {1, 2, 59, 60, 61, 62, 63, 64, 256}) {
                byte[] row = unlike(n);
                byte[] element = Checks.join(Checks.bytes(59 + bytes << 2), Checks.number(n - 1, bytes), row);
                dueElement(n + " literals told in " + bytes, element, row);
            }
        }
        byte[] row = unlike(257);
        dueElement("257 literals", Checks.join(Checks.bytes(244, 0, 1), row), row);
    }

    private static void literalsByNumbers() {
        PackHouse x = new PackHouse();
        for (int bytes = 1; bytes <= 4; bytes++) {
            byte[] told = Checks.join(Checks.bytes(3, 59 + bytes << 2), Checks.same(255, bytes));
            Checks.dueFault("as many as " + bytes + " bytes can tell", x, 2, told, 9, 5, 1);
            for (int n = 0; n < bytes; n++) {
                Checks.dueFault(n + " of " + bytes + " bytes", x, 2, Checks.part(told, 0, 2 + n), 9, 1, 2 + n);
            }
        }
        Checks.dueFault("2^31 + 1 literals", x, 2, Checks.bytes(3, 252, 0, 0, 0, 128), 9, 5, 1);
        Checks.dueFault("no TAG", x, 2, Checks.bytes(1), 9, 6, 1);
        Checks.dueFault("a TAG alone", x, 2, Checks.bytes(1, 0), 9, 1, 2);
    }

    private static void dueCopy(String what, int so, int n, byte[] copy, boolean right) {
        PackHouse x = new PackHouse();
        byte[] told = length(so + n);
        if (so > 256) {
            load(x, 1, told, 5, so, copy);
        } else {
            Checks.load(x, 1, Checks.join(told, literal(Checks.same(5, so)), copy));
        }
        Checks.due(what, x.read(2, 1, 2, 65536), right ? so + n : -4);
        Checks.due(what + ": PLACE", x.about(0), right ? x.size(1) : x.size(1) - copy.length);
        if (right) {
            Checks.dueRow(what, x, 2, Checks.same(5, so + n));
        }
    }

    private static void shortCopies() {
        for (int n = 4; n <= 11; n++) {
            for (int so : new int[] {1, 2, 255, 256, 257, 511, 512, 2046, 2047, 3000}) {
                dueCopy("k 1 of " + n + ", DISTANCE 0", so, n, short1(n, 0), false);
                dueCopy("k 1 of " + n + ", DISTANCE 1", so, n, short1(n, 1), true);
                int far = Math.min(so, 2047);
                dueCopy("k 1 of " + n + ", as far as may be", so, n, short1(n, far), true);
                if (so < 2047) {
                    dueCopy("k 1 of " + n + ", one further", so, n, short1(n, so + 1), false);
                }
            }
        }
    }

    private static void longCopies() {
        for (int n : new int[] {1, 2, 3, 4, 11, 12, 63, 64}) {
            for (int so : new int[] {1, 255, 256, 257, 2048, 65400}) {
                dueCopy("k 2 of " + n + ", DISTANCE 0", so, n, long2(n, 0), false);
                dueCopy("k 2 of " + n + ", as far as may be", so, n, long2(n, so), true);
                dueCopy("k 2 of " + n + ", one further", so, n, long2(n, so + 1), false);
                dueCopy("k 3 of " + n + ", DISTANCE 0", so, n, long3(n, 0), false);
                dueCopy("k 3 of " + n + ", as far as may be", so, n, long3(n, so), true);
                dueCopy("k 3 of " + n + ", one further", so, n, long3(n, so + 1), false);
                for (long far : new long[] {65536, 1 << 24, (1L << 31) - 1, 1L << 31, 1L << 31 | 1, (1L << 32) - 1}) {
                    dueCopy("k 3 of " + n + ", far too far", so, n, long3(n, far), false);
                }
            }
        }
    }

    private static void farCopies() {
        dueCopy("65534 bytes, 65535 back", 65534, 1, long2(1, 65535), false);
        dueCopy("65535 bytes, 65535 back", 65535, 1, long2(1, 65535), true);
        dueCopy("65535 bytes, 65535 back by k 3", 65535, 1, long3(1, 65535), true);
        dueCopy("65535 bytes, 65536 back by k 3", 65535, 1, long3(1, 65536), false);
        PackHouse x = new PackHouse();
        Checks.dueRead("what is copied is copied again", x, 2, Checks.bytes(9, 8, 1, 2, 3, 2 | 5 << 2, 2, 0), 9,
            Checks.bytes(1, 2, 3, 2, 3, 2, 3, 2, 3));
    }

    private static void order() {
        PackHouse x = new PackHouse();
        Checks.dueFault("a DISTANCE's byte before all", x, 2, Checks.bytes(1, 0, 9, 1), 9, 1, 4);
        Checks.dueFault("two of them", x, 2, Checks.bytes(1, 0, 9, 2, 1), 9, 1, 5);
        Checks.dueFault("four of them", x, 2, Checks.bytes(1, 0, 9, 3, 1, 0, 0), 9, 1, 7);
        Checks.dueFault("a DISTANCE before too many", x, 2, Checks.bytes(1, 0, 9, 2, 2, 0), 9, 4, 3);
        Checks.dueFault("too many", x, 2, Checks.bytes(1, 0, 9, 2, 1, 0), 9, 5, 3);
        Checks.dueFault("a number's byte before too many", x, 2, Checks.bytes(1, 0, 9, 244, 9), 9, 1, 5);
        Checks.dueFault("too many before LITERALS that lack", x, 2, Checks.bytes(1, 0, 9, 244, 9, 9), 9, 5, 3);
        Checks.dueFault("no byte so far", x, 2, Checks.bytes(4, 1, 1), 9, 4, 1);
        Checks.dueFault("no byte so far, none may be", x, 2, Checks.bytes(0, 1, 1), 9, 4, 1);
        Checks.dueFault("a literal where none may be", x, 2, Checks.bytes(0, 0, 1), 9, 5, 1);
        Checks.dueFault("LENGTH before all", x, 2, Checks.bytes(9, 1), 8, 3, 0);
    }

    private static void cutBlocks() {
        byte[] block = Checks.join(length(200), literal(unlike(61)), short1(11, 61), long2(64, 72), long3(64, 136));
        for (int n = 0; n < block.length; n++) {
            // Behind each element the block may end, but has too few bytes.
            boolean between = n == 2 || n == 2 + 63 || n == 67 || n == 70;
            byte[] cut = Checks.part(block, 0, n);
            Checks.dueFault("cut at " + n, new PackHouse(), 2, cut, 200, between ? 6 : 1, n);
            Checks.dueFault("cut at " + n + " in a chunk", new PackHouse(), 3, Checks.join(MARK, chunk(0, sum(ABC), cut),
                plain(ABC)), 200, between ? 6 : 12, 18 + n);
            Checks.dueFault("cut at " + n + " in a chunk behind another", new PackHouse(), 3, Checks.join(MARK,
                plain(Checks.same(1, 150)), chunk(0, sum(ABC), cut), plain(ABC)), 400, between ? 6 : 12, 158 + 18 + n);
        }
        byte[] row = new byte[200];
        System.arraycopy(unlike(61), 0, row, 0, 61);
        System.arraycopy(row, 0, row, 61, 11);
        System.arraycopy(row, 0, row, 72, 64);
        System.arraycopy(row, 0, row, 136, 64);
        Checks.dueRead("not cut", new PackHouse(), 2, block, 200, row);
    }

    private static byte[] chunk(int kind, byte[]... parts) {
        byte[] all = Checks.join(parts);
        return Checks.join(Checks.bytes(kind), Checks.number(all.length, 3), all);
    }

    private static byte[] sum(byte[] b) {
        return Checks.number(Checks.masked(b), 4);
    }

    private static byte[] plain(byte[] b) {
        return chunk(1, sum(b), b);
    }

    private static byte[] packed(byte[] b, byte[]... block) {
        return chunk(0, sum(b), Checks.join(block));
    }

    // Each KIND there is, as the first chunk and later on, whole and cut behind each of its first bytes.
    private static void kinds() {
        for (int kind = 0; kind < 256; kind++) {
            PackHouse x = new PackHouse();
            byte[] one = kind == 0 ? packed(ABC, Checks.bytes(3, 8), ABC) : kind == 1 ? plain(ABC) : kind == 255 ? MARK
                : chunk(kind, sum(ABC), ABC);
            byte[] all = Checks.join(MARK, one);
            byte[] want = kind < 2 ? ABC : NONE;
            int late = kind >= 2 && kind < 128 ? 9 : 0;
            if (late > 0) {
                Checks.dueFault("KIND " + kind, x, 3, all, 9, late, 10);
            } else {
                Checks.dueRead("KIND " + kind, x, 3, all, 3, want);
            }
            for (int n = 1; n < 5; n++) {
                Checks.dueFault("KIND " + kind + ", cut", x, 3, Checks.part(all, 0, 10 + n), 9, late > 0 ? 9 : 7,
                    late > 0 ? 10 : 10 + n);
                Checks.dueFault("KIND " + kind + " first, cut", x, 3, Checks.part(one, 0, n), 9, kind < 255 ? 8 : 7,
                    kind < 255 ? 0 : n);
            }
            if (kind < 255) {
                Checks.dueFault("KIND " + kind + " first", x, 3, one, 9, 8, 0);
            }
        }
    }

    private static void sizes() {
        PackHouse x = new PackHouse();
        for (int n = 0; n < 4; n++) {
            Checks.dueFault("KIND 0 of " + n, x, 3, Checks.join(MARK, chunk(0, new byte[n])), 9, 10, 10);
            Checks.dueFault("KIND 1 of " + n, x, 3, Checks.join(MARK, chunk(1, new byte[n])), 9, 10, 10);
            Checks.dueFault("KIND 1 of " + n + ", more behind it", x, 3, Checks.join(MARK, chunk(1, new byte[n]), MARK), 9,
                10, 10);
            Checks.dueRead("KIND 254 of " + n, x, 3, Checks.join(MARK, chunk(254, new byte[n])), 9, NONE);
        }
        Checks.dueFault("KIND 0 of 4", x, 3, Checks.join(MARK, chunk(0, sum(NONE))), 9, 12, 18);
        Checks.dueRead("KIND 1 of 4", x, 3, Checks.join(MARK, chunk(1, sum(NONE))), 0, NONE);
        Checks.dueFault("KIND 1 of 4, another sum", x, 3, Checks.join(MARK, chunk(1, new byte[4])), 0, 11, 14);
        Checks.dueRead("KIND 0 of 5", x, 3, Checks.join(MARK, chunk(0, sum(NONE), Checks.bytes(0))), 0, NONE);
        for (int kind : new int[] {0, 1, 128, 254, 255}) {
            x = new PackHouse();
            for (int told : new int[] {6, 7, 255, 256, 65535, 65536, 65540, 65541, 0xFFFFFF}) {
                byte[] one = Checks.join(MARK, Checks.bytes(kind), Checks.number(told, 3), new byte[5]);
                Checks.dueFault("KIND " + kind + " of " + told + ", not all there", x, 3, one, 9, 7, one.length);
            }
        }
    }

    private static void marks() {
        PackHouse x = new PackHouse();
        for (int at = 1; at < 10; at++) {
            byte[] other = Checks.with(MARK, at, MARK[at] ^ 32);
            // SIZE of another mark reaches beyond the row's end.
            int fault = at < 4 ? 7 : 8;
            Checks.dueFault("another byte " + at, x, 3, other, 9, fault, at < 4 ? 10 : 0);
            Checks.dueFault("and later on", x, 3, Checks.join(MARK, plain(ABC), other), 9, fault, at < 4 ? 31 : 21);
        }
        byte[] said = Checks.part(MARK, 4, 10);
        Checks.dueFault("a mark of 5", x, 3, chunk(255, Checks.part(said, 0, 5)), 9, 8, 0);
        Checks.dueFault("a mark of 7", x, 3, chunk(255, said, Checks.bytes(0)), 9, 8, 0);
        Checks.dueFault("a mark of none", x, 3, chunk(255), 9, 8, 0);
        Checks.dueRead("marks alone", x, 3, Checks.join(MARK, MARK, MARK), 0, NONE);
        for (int n = 1; n < 10; n++) {
            Checks.dueFault("cut at " + n, x, 3, Checks.part(MARK, 0, n), 9, 7, n);
        }
    }

    // 65,536 bytes in all, by one chunk and by two, and one more.
    private static void many() {
        for (int more = 0; more < 2; more++) {
            PackHouse x = new PackHouse();
            byte[] head = Checks.join(MARK, Checks.bytes(0), Checks.number(4 + 3 + 2 + 3 * 1024, 3),
                sum(Checks.same(7, 65536)));
            load(x, 1, Checks.join(head, length(65536 + more)), 7, 65536, NONE);
            Checks.due("LENGTH 65536 and " + more, x.read(2, 1, 3, 65536), more == 0 ? 65536 : -3);
            Checks.due("PLACE", x.about(0), more == 0 ? x.size(1) : 18);
            Checks.due("one less may be", x.read(2, 1, 3, 65535), -3);
            Checks.due("PLACE", x.about(0), 18);
        }
        int n = 65000;
        byte[] head = Checks.join(MARK, Checks.bytes(0), Checks.number(4 + 3 + elements(7, n).length, 3),
            sum(Checks.same(7, n)), length(n));
        for (int more = 535; more <= 537; more++) {
            PackHouse x = new PackHouse();
            load(x, 1, head, 7, n, plain(Checks.same(9, more)));
            int at = x.size(1) - more - 8;
            Checks.due(more + " more", x.read(2, 1, 3, 65536), more > 536 ? -3 : n + more);
            Checks.due("PLACE is the first too many", x.about(0), more > 536 ? at + 8 + 536 : x.size(1));
            byte[] row = Checks.same(9, more);
            load(x, 1, head, 7, n, packed(row, length(more), elements(9, more)));
            at = x.size(1) - 8 - 2 - elements(9, more).length;
            Checks.due(more + " more, packed", x.read(2, 1, 3, 65536), more > 536 ? -3 : n + more);
            Checks.due("PLACE is LENGTH", x.about(0), more > 536 ? at + 8 : x.size(1));
        }
        PackHouse x = new PackHouse();
        load(x, 1, head, 7, n, plain(NONE));
        Checks.due("none more", x.read(2, 1, 3, n), n);
    }

    private static void sums() {
        PackHouse x = new PackHouse();
        byte[] block = packed(ABC, Checks.bytes(3, 8), ABC);
        for (int i = 4; i < 8; i++) {
            for (int more : new int[] {1, 128, 255}) {
                Checks.dueFault("a byte of the sum", x, 3, Checks.join(MARK, Checks.with(plain(ABC), i, plain(ABC)[i] + more)),
                    3, 11, 14);
                Checks.dueFault("of a block", x, 3, Checks.join(MARK, Checks.with(block, i, block[i] + more)), 3, 11, 14);
            }
        }
        byte[] bad = Checks.with(Checks.with(block, 8, 2), 4, 0);
        Checks.dueFault("a block's fault comes first", x, 3, Checks.join(MARK, bad), 3, 5, 19);
        byte[] few = packed(Checks.text("zz"), Checks.bytes(4, 8), ABC);
        Checks.dueFault("fewer bytes, too", x, 3, Checks.join(MARK, few), 9, 6, 10 + 8 + 5);
        Checks.dueFault("a chunk's copy reaches no chunk before", x, 3, Checks.join(MARK, plain(ABC),
            packed(ABC, Checks.bytes(4, 0, 1, 2 | 2 << 2, 2, 0))), 9, 4, 10 + 11 + 8 + 3);
    }

    private static void cutStreams() {
        byte[] block = packed(ABC, Checks.bytes(3, 8), ABC);
        byte[] all = Checks.join(MARK, plain(ABC), chunk(128), block, chunk(254, ABC), MARK);
        int[] ends = {10, 21, 25, 38, 45};
        int[] sizes = {0, 3, 3, 6, 6};
        for (int n = 1; n < all.length; n++) {
            int whole = -1;
            for (int i = 0; i < 5; i++) {
                whole = ends[i] == n ? sizes[i] : whole;
            }
            if (whole >= 0) {
                Checks.dueRead("cut at " + n, new PackHouse(), 3, Checks.part(all, 0, n), 6,
                    Checks.part(Checks.text("abcabc"), 0, whole));
            } else {
                Checks.dueFault("cut at " + n, new PackHouse(), 3, Checks.part(all, 0, n), 6, 7, n);
            }
        }
        byte[] bad = Checks.join(MARK, packed(ABC, Checks.same(255, 9)));
        Checks.dueFault("what is cut is not looked at", new PackHouse(), 3, Checks.part(bad, 0, bad.length - 1), 6, 7,
            bad.length - 1);
        Checks.dueFault("what is not is", new PackHouse(), 3, bad, 6, 2, 18);
    }

    // Rows of 256 and 65,536 bytes: bytes that count for nothing, and as much of chunks as there is room for.
    private static void cutAtTheLimit() {
        byte[] all = Checks.join(packed(ABC, Checks.bytes(3, 8), ABC), plain(ABC));
        for (int n : new int[] {256, 1024, 65536}) {
            for (int cut = 0; cut <= all.length; cut++) {
                byte[] row = Checks.join(MARK, chunk(200, new byte[n - 14 - cut]), Checks.part(all, 0, cut));
                boolean whole = cut == 0 || cut == 13 || cut == all.length;
                if (whole) {
                    Checks.dueRead("a full row", new PackHouse(), 3, row, 6,
                        cut == 0 ? NONE : cut == 13 ? ABC : Checks.text("abcabc"));
                } else {
                    Checks.dueFault(cut + " bytes at the end of " + n, new PackHouse(), 3, row, 6, 7, n);
                }
            }
            byte[][] tails = {literal(unlike(61)), short1(4, 1), long2(4, 1), long3(4, 1)};
            for (byte[] tail : tails) {
                for (int cut = 1; cut < tail.length; cut++) {
                    int m = n - 6 - cut;
                    byte[] row = Checks.join(length(65536), Checks.bytes(244), Checks.number(m - 1, 2), Checks.same(5, m),
                        Checks.part(tail, 0, cut));
                    // Of literals their TAG and number come first: then they are too many, if so.
                    boolean many = m + 61 > 65536 && tail.length > 5 && cut > 1;
                    Checks.dueFault("an element at the end of " + n, new PackHouse(), 2, row, 65536, many ? 5 : 1,
                        many ? n - cut : n);
                }
            }
        }
    }

    private static void lengthsWritten() {
        for (int n : new int[] {5, 127, 128, 129, 16383, 16384}) {
            PackHouse x = new PackHouse();
            Checks.load(x, 0, Checks.same(3, n));
            Checks.due("written", x.write(1, 0, 2) > 0, true);
            byte[] told = length(n);
            for (int i = 0; i < told.length; i++) {
                Checks.due(n + " bytes: LENGTH " + i, x.byteAt(1, i), told[i] & 255);
            }
            Checks.due("the first literal", x.byteAt(1, told.length) + 256 * x.byteAt(1, told.length + 1), 256 * 3);
            Checks.due("strayed", x.strayed(0), 0);
        }
    }

    private static void matchesWritten() {
        byte[] said = Checks.text("abcdefghijklmnop");
        for (int way = 0; way < 4; way++) {
            for (int n = 1; n <= 16; n++) {
                PackHouse x = new PackHouse();
                x.set(0, way);
                byte[] row = Checks.join(said, Checks.text("--+"), Checks.part(said, 16 - n, 16));
                byte[] want = n < 4 ? Checks.join(length(row.length), literal(row)) : Checks.join(length(row.length),
                    literal(Checks.part(row, 0, 19)), n < 12 ? short1(n, 19 - (16 - n)) : long2(n, 19 - (16 - n)));
                Checks.dueWritten("way " + way + ", " + n + " at the end", x, 2, row, want);
            }
        }
        for (int n = 1; n <= 12; n++) {
            PackHouse x = new PackHouse();
            byte[] row = Checks.join(said, Checks.part(said, 0, n), Checks.bytes(33));
            byte[] want = n < 4 ? Checks.join(length(row.length), literal(row)) : Checks.join(length(row.length),
                literal(said), n < 12 ? short1(n, 16) : long2(n, 16), literal(Checks.bytes(33)));
            Checks.dueWritten(n + " and one literal", x, 2, row, want);
        }
    }

    private static void rowsOfCut() {
        for (int n = 0; n <= 9; n++) {
            byte[] row = unlike(n);
            for (int cut : new int[] {1, 2, 3, 4, 8, 9, 10, 65535, 65536}) {
                PackHouse x = new PackHouse();
                x.set(2, cut);
                byte[] want = MARK;
                for (int at = 0; at < n; at += cut) {
                    want = Checks.join(want, plain(Checks.part(row, at, Math.min(n, at + cut))));
                }
                Checks.dueWritten(n + " bytes, CUT " + cut, x, 3, row, want);
            }
        }
        PackHouse x = new PackHouse();
        byte[] row = Checks.join(unlike(20), unlike(20));
        x.set(2, 20);
        Checks.dueWritten("no match of the row before", x, 3, row, Checks.join(MARK, plain(unlike(20)), plain(unlike(20))));
    }

    private static void spareChunks() {
        for (int n : new int[] {0, 1, 2, 254, 255}) {
            PackHouse x = new PackHouse();
            x.set(6, n);
            byte[] spare = n == 0 ? NONE : chunk(254, new byte[n]);
            Checks.dueWritten("SPARE " + n, x, 3, ABC, Checks.join(MARK, plain(ABC), spare));
            Checks.dueWritten("SPARE " + n + ", no bytes", x, 3, NONE, MARK);
            x.set(2, 2);
            Checks.dueWritten("SPARE " + n + ", two chunks", x, 3, ABC, Checks.join(MARK, plain(Checks.text("ab")), spare,
                plain(Checks.text("c")), spare));
            Checks.due("BOUND", x.bound(3, 3), 10 + 3 + 16 + (n == 0 ? 0 : 2 * (4 + n)));
            Checks.due("size", x.size(1), 10 + 3 + 16 + (n == 0 ? 0 : 2 * (4 + n)));
        }
    }

    // LENGTH, a TAG and a copy take four bytes: a match of four saves none.
    private static void notFewer() {
        byte[] said = Checks.text("abcdefgh");
        for (int n = 4; n <= 8; n++) {
            byte[] row = Checks.join(said, Checks.part(said, 0, n));
            byte[] block = Checks.join(length(row.length), literal(said), short1(n, 8));
            PackHouse x = new PackHouse();
            Checks.due("how many bytes", block.length - row.length, 4 - n);
            Checks.dueWritten(n + " bytes again", x, 3, row, Checks.join(MARK, n == 4 ? plain(row) : packed(row, block)));
            Checks.dueWritten("the block alone", x, 2, row, block);
        }
    }
}
