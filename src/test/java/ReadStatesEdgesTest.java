/** Promises 19 and 23 in FORMAT 4: frames on each boundary that III. STATES names for reading, and on both sides of it. */
public final class ReadStatesEdgesTest {
    private static final byte[] MAGIC = Checks.bytes(40, 181, 47, 253);
    private static final byte[] NONE = new byte[0];
    private static final byte[] ABC = Checks.text("abc");
    private static final byte[] NO_SEQUENCES = Checks.bytes(0);
    private static final States.Share[] KNOWN = {States.Share.known(0), States.Share.known(1), States.Share.known(2)};

    public static void main(String[] args) {
        heads();
        ids();
        sizes();
        windows();
        blocks();
        manyBytes();
        spareBytes();
        beginnings();
        plainLiterals();
        manyLiterals();
        fourStreams();
        directDescriptions();
        weights();
        describedByStates();
        streamsOfLiterals();
        cutBlocks();
        keptCodes();
        numbersOfSequences();
        symbolsAlone();
        shares();
        knownShares();
        streamsOfSequences();
        literalLengths();
        matchLengths();
        distances();
        literalsLeft();
        Checks.end("ReadStatesEdgesTest");
    }

    private static void dueRead(String what, byte[] row, byte[] want) {
        Checks.dueRead(what, new PackHouse(), 4, row, want.length, want);
    }

    private static void dueFault(String what, byte[] row, int fault, int place) {
        dueFault(what, row, 65536, fault, place);
    }

    private static void dueFault(String what, byte[] row, int most, int fault, int place) {
        Checks.dueFault(what, new PackHouse(), 4, row, most, fault, place);
    }

    private static byte[] plain(boolean last, byte[] row) {
        return Checks.join(States.blockHead(0, last, row.length), row);
    }

    private static byte[] same(boolean last, int v, int n) {
        return Checks.join(States.blockHead(1, last, n), Checks.bytes(v));
    }

    private static byte[] packed(boolean last, byte[]... parts) {
        byte[] all = Checks.join(parts);
        return Checks.join(States.blockHead(2, last, all.length), all);
    }

    // WINDOW 2^27, no ID, no SIZE, no sum: the first block begins at 6, what it has at 9.
    private static byte[] frame(byte[]... blocks) {
        return Checks.join(MAGIC, Checks.bytes(0, 17 << 3), Checks.join(blocks));
    }

    private static byte[] one(byte[]... parts) {
        return frame(packed(true, parts));
    }

    // Each HEAD there is, with all that it tells.
    private static void heads() {
        for (int head = 0; head < 256; head++) {
            boolean single = (head & 32) != 0;
            int f = head >> 6;
            int g = head & 3;
            int n = f == 0 && single ? 255 : 300;
            byte[] content = Checks.same(120, n);
            byte[] size = Checks.number(f == 1 ? n - 256 : n, f == 0 ? single ? 1 : 0 : 1 << f);
            byte[] all = Checks.join(MAGIC, Checks.bytes(head), single ? NONE : Checks.bytes(80), new byte[g == 3 ? 4 : g],
                size, same(true, 120, n), (head & 4) != 0 ? Checks.number(Checks.wide(content), 4) : NONE);
            if ((head & 8) != 0) {
                dueFault("HEAD " + head, all, 3, 4);
                dueFault("HEAD " + head + ", nothing behind it", Checks.part(all, 0, 5), 3, 4);
            } else {
                dueRead("HEAD " + head, all, content);
                dueFault("HEAD " + head + ", one less may be", all, n - 1, 7, all.length - ((head & 4) != 0 ? 8 : 4));
                for (int cut = 5; cut < all.length; cut++) {
                    PackHouse x = new PackHouse();
                    Checks.load(x, 1, Checks.part(all, 0, cut));
                    Checks.due("HEAD " + head + ", cut at " + cut, x.read(2, 1, 4, 65536), -1);
                    Checks.due("PLACE", x.about(0), cut);
                    // The WINDOW is told by its byte, or by SIZE when all of that is there.
                    int told = 5 + (single ? (g == 3 ? 4 : g) + size.length : 1);
                    Checks.due("WINDOW", x.about(17), cut < told ? 0 : single ? n : 1 << 20);
                    Checks.due("blocks", x.about(14), cut < 5 + (single ? 0 : 1) + (g == 3 ? 4 : g) + size.length + 3 ? 0 : 1);
                }
                dueRead("HEAD " + head + ", thrice", Checks.join(all, all, all), Checks.same(120, 3 * n));
            }
        }
    }

    private static byte[] formed(int id) {
        byte[] share = new States.Share(5, new int[] {31, 1}).told();
        return Checks.join(Checks.bytes(55, 164, 48, 236), Checks.number(id, 4), Checks.bytes(128, 0x10), share, share, share,
            Checks.number(1, 4), Checks.number(2, 4), Checks.number(3, 4), Checks.text("wxyz"));
    }

    private static byte[] named(int g, long id) {
        return Checks.join(MAGIC, Checks.bytes(g, 80), Checks.number(id, g == 3 ? 4 : g), plain(true, ABC));
    }

    // An ID of one, two or four bytes that is the DICTIONARY's, one beside it, and 0.
    private static void ids() {
        for (long id : new long[] {0, 1, 254, 255, 256, 65535, 65536, (1L << 31) - 1, 1L << 31, (1L << 32) - 1}) {
            PackHouse x = new PackHouse();
            Checks.load(x, 3, formed((int) id));
            Checks.due("learn", x.learn(3), 4);
            for (int g = 1; g < 4; g++) {
                long limit = g == 1 ? 256 : g == 2 ? 65536 : 1L << 32;
                Checks.dueRead("ID 0", x, 4, named(g, 0), 9, ABC);
                for (long told : new long[] {id - 1, id, id + 1, id & 255, id & 65535, limit - 1}) {
                    if (told > 0 && told < limit) {
                        String what = "ID " + told + " of " + id;
                        if (told == id) {
                            Checks.dueRead(what, x, 4, named(g, told), 9, ABC);
                        } else {
                            Checks.dueFault(what, x, 4, named(g, told), 9, 4, 6);
                        }
                    }
                }
            }
        }
        for (int g = 1; g < 4; g++) {
            dueRead("ID 0 without a DICTIONARY", named(g, 0), ABC);
            dueFault("ID 1 without one", named(g, 1), 4, 6);
            dueFault("ID, nothing behind it", Checks.part(named(g, 1), 0, 6 + (g == 3 ? 4 : g)), 4, 6);
            dueFault("ID that is cut", Checks.part(named(g, 1), 0, 5 + (g == 3 ? 4 : g)), 1, 5 + (g == 3 ? 4 : g));
        }
        PackHouse x = new PackHouse();
        Checks.load(x, 3, ABC);
        x.learn(3);
        Checks.dueFault("ID 1 with content alone", x, 4, named(1, 1), 9, 4, 6);
        Checks.dueRead("ID 0 with content alone", x, 4, named(1, 0), 9, ABC);
    }

    // SIZE told as one less, as it is and as one more, in each form that can tell it.
    private static void sizes() {
        for (int n : new int[] {0, 1, 2, 254, 255, 256, 257, 511, 512, 65535, 65536}) {
            int half = n / 2;
            byte[] blocks = Checks.join(same(false, 7, half), same(true, 7, n - half));
            for (int form = 0; form < 8; form++) {
                boolean single = form > 3;
                int f = form % 4;
                int bytes = f == 0 ? single ? 1 : 0 : 1 << f;
                int at = single ? 5 : 6;
                for (long told = n - 1; told <= n + 1; told++) {
                    long number = f == 1 ? told - 256 : told;
                    long limit = bytes == 8 ? Long.MAX_VALUE : 1L << 8 * bytes;
                    if (number < 0 || number >= limit || bytes == 0 || single && told < n - half) {
                        continue;
                    }
                    byte[] all = Checks.join(MAGIC, Checks.bytes(64 * f + (single ? 32 : 0)), single ? NONE : Checks.bytes(80),
                        Checks.number(number, bytes), blocks);
                    String what = n + " bytes, SIZE " + told + ", form " + form;
                    if (told == n) {
                        dueRead(what, all, Checks.same(7, n));
                    } else {
                        dueFault(what, all, 9, at);
                    }
                }
            }
        }
        for (int i = 3; i < 8; i++) {
            for (int v : new int[] {1, 128, 255}) {
                byte[] size = Checks.with(Checks.number(3, 8), i, v);
                dueFault("SIZE of eight bytes", Checks.join(MAGIC, Checks.bytes(192, 80), size, plain(true, ABC)), 9, 6);
                dueFault("SINGLE", Checks.join(MAGIC, Checks.bytes(224), size, plain(true, ABC)), 9, 5);
            }
        }
        byte[] sum = Checks.number(Checks.wide(ABC), 4);
        for (int i = 0; i < 4; i++) {
            byte[] all = Checks.join(MAGIC, Checks.bytes(36, 4), plain(true, ABC), Checks.with(sum, i, sum[i] + 1));
            dueFault("the sum ahead of SIZE", all, 8, 12);
            byte[] right = Checks.join(MAGIC, Checks.bytes(36, 3), plain(true, ABC), Checks.with(sum, i, sum[i] + 1));
            dueFault("the sum", right, 8, 12);
        }
        dueFault("SIZE, the sum being right", Checks.join(MAGIC, Checks.bytes(36, 4), plain(true, ABC), sum), 9, 5);
    }

    // Each byte that tells a WINDOW: MOST OF A BLOCK is that or 131072.
    private static void windows() {
        for (int v = 0; v < 256; v++) {
            long window = (1L << 10 + v / 8) + (1L << 7 + v / 8) * (v % 8);
            int most = (int) Math.min(window, 131072);
            byte[] head = Checks.join(MAGIC, Checks.bytes(0, v));
            PackHouse x = new PackHouse();
            Checks.load(x, 1, Checks.join(head, same(true, 7, most)));
            Checks.due("as many as may be, byte " + v, x.read(2, 1, 4, 65536), most > 65536 ? -7 : most);
            Checks.due("WINDOW", x.about(17), Math.min(window, Integer.MAX_VALUE));
            Checks.load(x, 1, Checks.join(head, same(true, 7, most + 1)));
            Checks.due("one more", x.read(2, 1, 4, 65536), -6);
            Checks.due("PLACE", x.about(0), 6);
            Checks.load(x, 1, Checks.join(head, States.blockHead(0, true, most + 1)));
            Checks.due("one more, ahead of the cut", x.read(2, 1, 4, 65536), -6);
            Checks.load(x, 1, Checks.join(head, States.blockHead(2, true, most + 1)));
            Checks.due("one more of kind 2", x.read(2, 1, 4, 65536), -6);
            Checks.load(x, 1, Checks.join(head, States.blockHead(2, true, most)));
            Checks.due("not one more, but cut", x.read(2, 1, 4, 65536), -1);
            Checks.load(x, 1, Checks.join(head, States.blockHead(3, true, most + 1)));
            Checks.due("kind 3 comes first", x.read(2, 1, 4, 65536), -5);
        }
        for (int n = 0; n < 4; n++) {
            byte[] head = Checks.join(MAGIC, Checks.bytes(32, n));
            for (int kind = 0; kind < 2; kind++) {
                byte[] row = kind == 0 ? Checks.same(9, n) : Checks.bytes(9);
                dueRead("SINGLE, as many as SIZE", Checks.join(head, States.blockHead(kind, true, n), row), Checks.same(9, n));
                dueFault("one more", Checks.join(head, States.blockHead(kind, true, n + 1), Checks.same(9, n + 1)), 6, 6);
            }
        }
    }

    private static void blocks() {
        for (int told = 0; told < 64; told++) {
            int kind = told >> 1 & 3;
            int n = told >> 3;
            boolean last = (told & 1) != 0;
            byte[] row = kind == 1 ? Checks.bytes(97) : Checks.same(97, n);
            byte[] head = Checks.number(told, 3);
            byte[] all = frame(head, row, last ? NONE : plain(true, ABC));
            if (kind == 3) {
                dueFault("three bytes " + told, all, 5, 6);
                dueFault("kind 3, nothing behind it", frame(head), 5, 6);
            } else if (kind < 2) {
                dueRead("three bytes " + told, all, Checks.join(Checks.same(97, n), last ? NONE : ABC));
                dueFault("no block behind it", frame(Checks.number(told & 62, 3), row), 1, 9 + row.length);
                for (int cut = 0; cut < row.length; cut++) {
                    dueFault("a byte lacks", frame(head, Checks.part(row, 0, cut)), 1, 9 + cut);
                    dueFault("before too many", frame(head, Checks.part(row, 0, cut)), 0, 1, 9 + cut);
                }
                if (n > 0) {
                    dueFault("too many", frame(head, row), n - 1, 7, 6);
                }
            }
        }
        PackHouse x = new PackHouse();
        Checks.load(x, 1, frame(plain(false, ABC), Checks.number(6, 3)));
        Checks.due("kind 3", x.read(2, 1, 4, 9), -5);
        Checks.due("its three bytes were there", x.about(14), 2);
        Checks.load(x, 1, frame(plain(false, ABC), Checks.number(6, 2)));
        Checks.due("two of three bytes", x.read(2, 1, 4, 9), -1);
        Checks.due("they were not", x.about(14), 1);
        Checks.due("bytes that had come", x.about(16), 3);
    }

    // 65,536 bytes in all, by one block, several, several frames; and one more.
    private static void manyBytes() {
        dueRead("65536 by kind 1", frame(same(true, 7, 65536)), Checks.same(7, 65536));
        dueFault("65537 by kind 1", frame(same(true, 7, 65537)), 7, 6);
        byte[] most = same(false, 7, 65533);
        dueRead("three more", frame(most, plain(true, ABC)), Checks.join(Checks.same(7, 65533), ABC));
        dueFault("four more", frame(most, plain(true, Checks.text("abcd"))), 7, 10);
        dueRead("three more LITERALS", frame(most, packed(true, States.plain(0, ABC), NO_SEQUENCES)),
            Checks.join(Checks.same(7, 65533), ABC));
        dueFault("four more LITERALS", frame(most, packed(true, States.plain(0, Checks.text("abcd")), NO_SEQUENCES)), 7, 13);
        byte[] first = frame(same(true, 7, 65533));
        dueRead("by two frames", Checks.join(first, frame(plain(true, ABC))), Checks.join(Checks.same(7, 65533), ABC));
        dueFault("one more by two frames", Checks.join(first, frame(plain(true, Checks.text("abcd")))), 7, 16);
        PackHouse x = new PackHouse();
        Checks.load(x, 1, Checks.join(first, frame(plain(true, Checks.text("abcd")))));
        Checks.due("read", x.read(2, 1, 4, 65536), -7);
        Checks.due("bytes that had come", x.about(16), 65533);
        Checks.due("frames", x.about(13), 2);
        Checks.due("blocks", x.about(14), 2);
    }

    private static byte[] spare(int first, long told, int n) {
        return Checks.join(Checks.bytes(first, 42, 77, 24), Checks.number(told, 4), new byte[n]);
    }

    private static void spareBytes() {
        byte[] abc = frame(plain(true, ABC));
        for (int first = 78; first < 98; first++) {
            byte[] both = Checks.join(spare(first, 2, 2), abc);
            if (first >= 80 && first <= 95) {
                dueRead("spare " + first, both, ABC);
            } else {
                dueFault("spare " + first, both, 2, 0);
            }
        }
        for (int i = 1; i < 4; i++) {
            byte[] s = spare(85, 0, 0);
            dueFault("no spare bytes", Checks.join(abc, Checks.with(s, i, s[i] + 1)), 2, abc.length);
            dueFault("no frame", Checks.join(spare(85, 3, 3), Checks.with(MAGIC, i, MAGIC[i] + 1)), 2, 11);
        }
        for (int n = 0; n < 3; n++) {
            dueRead("as many as told", Checks.join(abc, spare(85, n, n)), ABC);
            dueFault("one too few", Checks.join(abc, spare(85, n + 1, n)), 1, abc.length + 8 + n);
            dueFault("one too many", Checks.join(abc, spare(85, n, n + 1)), 1, abc.length + 8 + n + 1);
        }
        for (long told : new long[] {1L << 31, (1L << 32) - 1, (1L << 32) - 8, (1L << 31) - 1}) {
            dueFault("far too few", Checks.join(spare(80, told, 2), abc), 1, 10 + abc.length);
        }
        for (int n = 1; n < 8; n++) {
            dueFault("spare bytes that are cut", Checks.part(spare(95, 0, 0), 0, n), 1, n);
        }
        dueRead("spare bytes alone", spare(95, 0, 0), NONE);
    }

    private static void beginnings() {
        for (int n = 1; n < 4; n++) {
            dueFault(n + " bytes that begin nothing", Checks.same(9, n), 1, n);
            dueFault(n + " bytes of a frame", Checks.part(MAGIC, 0, n), 1, n);
            dueFault(n + " bytes behind a frame", Checks.join(frame(plain(true, ABC)), Checks.same(9, n)), 1, 12 + n);
        }
        dueFault("four bytes that begin nothing", Checks.same(9, 4), 2, 0);
        dueFault("a frame's first four", MAGIC, 1, 4);
        PackHouse x = new PackHouse();
        Checks.load(x, 1, MAGIC);
        x.read(2, 1, 4, 9);
        Checks.due("no HEAD is there", x.about(13), 0);
        Checks.load(x, 1, Checks.join(MAGIC, Checks.bytes(0)));
        x.read(2, 1, 4, 9);
        Checks.due("one is", x.about(13), 1);
        Checks.due("but no WINDOW", x.about(17), 0);
        dueRead("no bytes", NONE, NONE);
    }

    // Heads of one, two and three bytes with as many as they can tell.
    private static void plainLiterals() {
        int[][] ways = {{0, 0}, {0, 1}, {0, 30}, {0, 31}, {1, 0}, {1, 1}, {1, 31}, {1, 32}, {1, 4095}, {3, 0}, {3, 1},
            {3, 4095}, {3, 4096}, {3, 60000}};
        for (int[] way : ways) {
            for (int k = 0; k < 2; k++) {
                int l = way[0];
                int n = way[1];
                byte[] head = l == 0 ? Checks.bytes(n << 3 | k) : Checks.number((long) n << 4 | l << 2 | k, l == 1 ? 2 : 3);
                byte[] bytes = Checks.same(66, k == 0 ? n : 1);
                byte[] block = Checks.join(head, bytes, NO_SEQUENCES);
                String what = n + " literals, k " + k + ", l " + l;
                dueRead(what, one(block), Checks.same(66, n));
                if (n > 0) {
                    dueFault(what + ", one less may be", one(block), n - 1, 7, 9);
                }
                for (int less = 1; less <= Math.min(3, block.length); less++) {
                    byte[] cut = Checks.part(block, 0, block.length - less);
                    dueFault(what + ", " + less + " lack", one(cut), 10, 9 + cut.length);
                }
            }
        }
    }

    // The number of LITERALS against MOST OF A BLOCK, for each form of their head.
    private static void manyLiterals() {
        for (int n = 1023; n <= 1026; n++) {
            byte[] head = Checks.join(MAGIC, Checks.bytes(0, 0));
            byte[] all = Checks.join(head, packed(true, Checks.number(n << 4 | 5, 2), Checks.bytes(66), NO_SEQUENCES));
            if (n <= 1024) {
                dueRead(n + " literals, WINDOW 1024", all, Checks.same(66, n));
            } else {
                dueFault(n + " literals, WINDOW 1024", all, 11, 9);
                dueFault("ahead of what lacks", Checks.join(head, packed(true, Checks.number(n << 4 | 5, 2))), 11, 9);
                dueFault("k 0", Checks.join(head, packed(true, Checks.number(n << 4 | 4, 2))), 11, 9);
            }
            for (int k = 2; k < 4; k++) {
                byte[] coded = Checks.join(head, packed(true, Checks.number((long) n << 4 | 8 | k, 4)));
                int fault = n > 1024 ? 11 : k == 3 ? 13 : 12;
                dueFault(n + " literals, k " + k, coded, fault, fault == 12 ? 13 : 9);
            }
        }
        for (int n = 131071; n <= 131073; n++) {
            byte[] all = one(Checks.number((long) n << 4 | 13, 3), Checks.bytes(66), NO_SEQUENCES);
            dueFault(n + " literals", all, n > 131072 ? 11 : 7, 9);
            byte[] coded = one(Checks.number((long) n << 4 | 14, 5));
            dueFault(n + " literals, k 2", coded, n > 131072 ? 11 : 12, n > 131072 ? 9 : 14);
        }
        byte[] single = Checks.join(MAGIC, Checks.bytes(32, 3));
        dueRead("SINGLE, 3", Checks.join(single, packed(true, Checks.bytes(25, 66, 0))), Checks.same(66, 3));
        dueFault("SINGLE, 4 of 3", Checks.join(single, packed(true, Checks.bytes(33, 66, 0))), 11, 9);
    }

    // Codes of symbols 0 and 1, a bit each.
    private static final byte[] TWO = {(byte) 128, 0x10};
    private static final int[] TWO_LENGTHS = {1, 1};

    private static byte[] byTurns(int n) {
        byte[] b = new byte[n];
        for (int i = 0; i < n; i++) {
            b[i] = (byte) (i * i / 3 % 2);
        }
        return b;
    }

    // How many LITERALS four streams can have, and one.
    private static void fourStreams() {
        for (int n = 0; n <= 24; n++) {
            byte[] row = byTurns(n);
            boolean can = n != 1 && n != 2 && n != 5;
            dueRead(n + " in one stream", one(States.coded(2, 0, n, Checks.join(TWO, States.stream(row, TWO_LENGTHS))),
                NO_SEQUENCES), row);
            for (int l = 1; l < 4; l++) {
                byte[] told = can ? Checks.join(TWO, States.fourStreams(row, TWO_LENGTHS)) : TWO;
                byte[] all = one(States.coded(2, l, n, told), NO_SEQUENCES);
                if (can) {
                    dueRead(n + " in four streams, l " + l, all, row);
                } else {
                    dueFault(n + " in four streams, l " + l, all, 11, 9);
                    dueFault("ahead of CODES that are not there", one(States.coded(3, l, n, NONE)), 11, 9);
                }
            }
        }
        byte[] row = byTurns(1023);
        dueRead("1023 with l 0", one(States.coded(2, 0, 1023, Checks.join(TWO, States.stream(row, TWO_LENGTHS))),
            NO_SEQUENCES), row);
        for (int l = 1; l < 4; l++) {
            int n = l == 1 ? 1023 : 4000;
            byte[] more = byTurns(n);
            dueRead(n + " with l " + l, one(States.coded(2, l, n, Checks.join(TWO, States.fourStreams(more, TWO_LENGTHS))),
                NO_SEQUENCES), more);
        }
        numbersOfStreams();
    }

    private static void numbersOfStreams() {
        byte[] row = byTurns(8);
        byte[] right = States.fourStreams(row, TWO_LENGTHS);
        int at = 9 + 3 + 2;
        for (int n = 0; n < 6; n++) {
            dueFault("fewer than six bytes", one(States.coded(2, 1, 8, Checks.join(TWO, new byte[n])), NO_SEQUENCES), 14, at);
        }
        for (int n = 0; n < 3; n++) {
            // 6 for the numbers and 4 for the streams, one each: numbers that reach the end leave none for the fourth.
            byte[] last = Checks.with(right, 2 * n, 2);
            byte[] beyond = Checks.with(right, 2 * n, 3);
            dueFault("numbers that reach beyond", one(States.coded(2, 1, 8, Checks.join(TWO, beyond)), NO_SEQUENCES), 14, at);
            dueFault("a stream with a byte too many", one(States.coded(2, 1, 8, Checks.join(TWO, last)), NO_SEQUENCES), 14,
                at + 6 + n);
            dueFault("a number of 257", one(States.coded(2, 1, 8, Checks.join(TWO, Checks.with(right, 2 * n + 1, 1))),
                NO_SEQUENCES), 14, at);
            byte[] none = Checks.with(right, 2 * n, 0);
            dueFault("a stream without a byte", one(States.coded(2, 1, 8, Checks.join(TWO, none)), NO_SEQUENCES), 14,
                at + 6 + n);
            dueFault("a number of 65535", one(States.coded(2, 1, 8, Checks.join(TWO, Checks.with(Checks.with(right, 2 * n, 255),
                2 * n + 1, 255))), NO_SEQUENCES), 14, at);
        }
        byte[] no4 = Checks.part(right, 0, right.length - 1);
        dueFault("no byte for the fourth", one(States.coded(2, 1, 8, Checks.join(TWO, no4)), NO_SEQUENCES), 14, at + 9);
        for (int i = 0; i < 4; i++) {
            dueFault("the last byte is 0", one(States.coded(2, 1, 8, Checks.join(TWO, Checks.with(right, 6 + i, 0))),
                NO_SEQUENCES), 14, at + 6 + i);
        }
    }

    // k 1 .. 128: weights 0 but the last one, which is 1, and so is the next one.
    private static void directDescriptions() {
        for (int k = 1; k <= 128; k++) {
            int[] lengths = new int[256];
            lengths[k - 1] = 1;
            lengths[k] = 1;
            byte[] told = States.direct(States.weights(lengths), k);
            byte[] row = Checks.bytes(k - 1, k, k);
            byte[] stream = States.stream(row, lengths);
            dueRead("k " + k, one(States.coded(2, 0, 3, Checks.join(told, stream)), NO_SEQUENCES), row);
            byte[] cut = Checks.part(told, 0, told.length - 1);
            dueFault("k " + k + ", its bytes end", one(States.coded(2, 0, 3, cut), NO_SEQUENCES), 12, 12);
            dueFault("k " + k + ", no stream", one(States.coded(2, 0, 3, told), NO_SEQUENCES), 14, 12 + told.length);
            if (k % 2 == 1) {
                byte[] other = Checks.with(told, told.length - 1, told[told.length - 1] | 15);
                dueRead("four bits that are no weight", one(States.coded(2, 0, 3, Checks.join(other, stream)), NO_SEQUENCES), row);
            }
        }
        dueFault("no byte", one(States.coded(2, 0, 3, NONE), NO_SEQUENCES), 12, 12);
    }

    private static byte[] weighed(int... weights) {
        return States.direct(weights, weights.length);
    }

    private static void dueWeights(String what, boolean right, int... weights) {
        byte[] told = weighed(weights);
        // Of no literals the stream is the END alone.
        byte[] all = one(States.coded(2, 0, 0, Checks.join(told, Checks.bytes(1))), NO_SEQUENCES);
        if (right) {
            dueRead(what, all, NONE);
        } else {
            dueFault(what, all, 12, 12);
        }
    }

    private static void weights() {
        dueWeights("S 0", false, 0);
        dueWeights("S 0 of three", false, 0, 0, 0);
        dueWeights("1: the next is 1", true, 1);
        dueWeights("0, 1", true, 0, 1);
        dueWeights("2: the next is 2, none is 1", false, 2);
        dueWeights("1, 1: the next is 2", true, 1, 1);
        dueWeights("1, 1, 1: the next is 1", true, 1, 1, 1);
        dueWeights("2, 1: the next is 1", true, 2, 1);
        dueWeights("2, 2: the next is 3, none is 1", false, 2, 2);
        dueWeights("3, 1: 3 lack", false, 3, 1);
        dueWeights("3, 2: the next is 2, none is 1", false, 3, 2);
        dueWeights("3, 1, 1: the next is 2", true, 3, 1, 1);
        dueWeights("3, 2, 1: the next is 1", true, 3, 2, 1);
        dueWeights("1, 1, 1, 1, 1: 3 lack", false, 1, 1, 1, 1, 1);
        dueWeights("1 six times: the next is 2", true, 1, 1, 1, 1, 1, 1);
        dueWeights("one is 1, and the next 1", true, 4, 3, 2, 1);
        dueWeights("one is 1, and the next is not", false, 4, 1);
        dueWeights("S 2047", true, 11, 10, 9, 8, 7, 6, 5, 4, 3, 2, 1);
        dueWeights("S 2046", true, 11, 10, 9, 8, 7, 6, 5, 4, 3, 1, 1);
        dueWeights("S 2048", false, 11, 10, 9, 8, 7, 6, 5, 4, 3, 2, 1, 1);
        dueWeights("S 1024 of 2, the next is 11", true, 10, 9, 8, 7, 6, 5, 4, 3, 2, 1, 1);
        dueWeights("a weight 12", false, 12);
        dueWeights("a weight 12 among others", false, 12, 11, 10, 9, 8, 7, 6, 5, 4, 3, 2, 1);
        dueWeights("a weight 15", false, 15);
        dueWeights("two of 11", false, 11, 11);
    }

    // BY STATES: orders 5 and 6, weights up to 11, as many bytes as are told.
    private static void describedByStates() {
        int[] lengths = new int[256];
        for (int i = 0; i < 40; i++) {
            lengths[i] = i < 8 ? 4 : 6;
        }
        int[] weights = States.weights(lengths);
        byte[] row = Checks.bytes(0, 39, 8, 7, 20);
        byte[] stream = States.stream(row, lengths);
        for (int order = 5; order <= 7; order++) {
            byte[] told = States.byStates(weights, 39, order);
            byte[] all = Checks.join(Checks.bytes(told.length), told, stream);
            String what = "order " + order;
            if (order == 7) {
                dueFault(what, one(States.coded(2, 0, 5, all), NO_SEQUENCES), 12, 12);
                continue;
            }
            dueRead(what, one(States.coded(2, 0, 5, all), NO_SEQUENCES), row);
            for (int n = 0; n < told.length; n++) {
                byte[] cut = Checks.join(Checks.bytes(told.length), Checks.part(told, 0, n));
                dueFault(what + ", its bytes end", one(States.coded(2, 0, 5, cut), NO_SEQUENCES), 12, 12);
            }
        }
        sharesOfWeights();
        lastBitsOfWeights();
        longDescriptions();
        manyWeights();
    }

    // As many bytes as the first one can tell: 127 of them, and 126.
    private static void longDescriptions() {
        int[] points = new int[12];
        java.util.Arrays.fill(points, -1);
        points[0] = 53;
        States.Share share = new States.Share(6, points);
        // Weights 1 and 2 take six bits each; ones and twice the twos are 255, so the next weight is 1.
        boolean[] seen = new boolean[200];
        for (int k = 150; k <= 170; k++) {
            int[] lengths = new int[256];
            for (int i = 0; i < k; i++) {
                lengths[i] = i < 255 - k ? 7 : 8;
            }
            lengths[k] = 8;
            int[] weights = States.weights(lengths);
            byte[] told = States.byShare(weights, k, share);
            byte[] row = Checks.bytes(k, 0, 99, k - 1);
            byte[] all = Checks.join(Checks.bytes(told.length), told, States.stream(row, lengths));
            seen[told.length] = true;
            if (told.length < 128) {
                dueRead(told.length + " bytes", one(States.coded(2, 0, 4, all), NO_SEQUENCES), row);
            } else {
                // 128 says that one weight follows.
                dueFault("128 bytes", one(States.coded(2, 0, 4, all), NO_SEQUENCES), 12, 12);
            }
        }
        Checks.due("126, 127 and 128 were seen", seen[126] && seen[127] && seen[128], true);
    }

    // 127 weights 1 among 255, and among 256, which are too many.
    private static void manyWeights() {
        States.Share share = new States.Share(5, new int[] {16, 16});
        for (int k = 253; k <= 257; k++) {
            int[] weights = new int[k];
            for (int i = 0; i < 127; i++) {
                weights[2 * i] = 1;
            }
            byte[] told = States.byShare(weights, k, share);
            byte[] all = one(States.coded(2, 0, 0, Checks.join(Checks.bytes(told.length), told, Checks.bytes(1))), NO_SEQUENCES);
            if (k <= 255) {
                dueRead(k + " weights", all, NONE);
            } else {
                dueFault(k + " weights", all, 12, 12);
            }
        }
    }

    private static byte[] ofNone(byte[]... told) {
        byte[] all = Checks.join(told);
        return one(States.coded(2, 0, 0, Checks.join(Checks.bytes(all.length), all, Checks.bytes(1))), NO_SEQUENCES);
    }

    private static void sharesOfWeights() {
        // Two weights 1 and the next one 2: both states at a place of weight 1.
        for (int last = 10; last <= 13; last++) {
            int[] points = new int[last + 1];
            points[1] = 20;
            points[last] = 12;
            States.Share share = new States.Share(5, points);
            byte[] two = new States.Bits().add(share.lowest(1), 5).add(share.lowest(1), 5).add(1, 1).bytes();
            if (last <= 11) {
                dueRead("LAST " + last, ofNone(share.told(), two), NONE);
            } else {
                dueFault("LAST " + last, ofNone(share.told(), two), 12, 12);
            }
        }
        States.Share share = new States.Share(5, new int[] {0, 20, 12});
        byte[] two = new States.Bits().add(share.lowest(1), 5).add(share.lowest(1), 5).add(1, 1).bytes();
        dueRead("as many bits as two states", ofNone(share.told(), two), NONE);
        dueFault("no byte is left", ofNone(share.told()), 12, 12);
        dueFault("its last one is 0", ofNone(share.told(), two, Checks.bytes(0)), 12, 12);
        byte[] less = new States.Bits().add(511, 9).add(1, 1).bytes();
        dueFault("one bit fewer than two states", ofNone(share.told(), less), 12, 12);
        dueFault("x 0", ofNone(), 12, 12);
        dueFault("one bit of an order", one(States.coded(2, 0, 0, Checks.bytes(1)), NO_SEQUENCES), 12, 12);
        byte[] long127 = Checks.join(share.told(), new byte[127 - share.told().length - 2], two);
        dueFault("127 bytes, too many weights", ofNone(long127), 12, 12);
    }

    // The next state takes just the bits that are left, or more than there are: a weight more, or not.
    private static void lastBitsOfWeights() {
        for (int many = 4; many <= 16; many *= 2) {
            States.Share share = new States.Share(5, new int[] {0, many, 32 - many});
            int first = share.lowest(1);
            int bits = share.bitsAt[first];
            for (int more = 0; more <= bits; more++) {
                byte[] told = new States.Bits().add(0, more).add(first, 5).add(first, 5).add(1, 1).bytes();
                byte[] described = Checks.join(share.told(), told);
                // Weights 1, 1 and the next one 2; or 1, 1, another, and the next one.
                int third = share.symbolAt[share.baseAt[first]];
                int[] lengths = more < bits ? new int[] {2, 2, 1} : third == 1 ? new int[] {2, 2, 2, 2} : new int[] {3, 3, 2, 1};
                byte[] row = Checks.bytes(2, 1, 0, 2);
                byte[] all = Checks.join(Checks.bytes(described.length), described, States.stream(row, lengths));
                dueRead(more + " of " + bits + " bits", one(States.coded(2, 0, 4, all), NO_SEQUENCES), row);
            }
        }
    }

    // Just the bits that its symbols read: a bit fewer, a bit more, no byte, a byte 0.
    private static void streamsOfLiterals() {
        for (int n = 0; n <= 17; n++) {
            byte[] row = byTurns(n);
            byte[] stream = States.stream(row, TWO_LENGTHS);
            int at = 9 + 3 + 2;
            dueRead(n + " bits", one(States.coded(2, 0, n, Checks.join(TWO, stream)), NO_SEQUENCES), row);
            dueFault(n + " bits, one more symbol", one(States.coded(2, 0, n + 1, Checks.join(TWO, stream)), NO_SEQUENCES), 14,
                at);
            dueFault(n + " bits and a byte 0", one(States.coded(2, 0, n, Checks.join(TWO, stream, Checks.bytes(0))),
                NO_SEQUENCES), 14, at);
            if (n > 0) {
                dueFault(n + " bits, one symbol less", one(States.coded(2, 0, n - 1, Checks.join(TWO, stream)), NO_SEQUENCES),
                    14, at);
            }
        }
        // Codes of 1, 2 and 2 bits: the last symbol's code is cut.
        byte[] told = weighed(2, 1);
        byte[] half = new States.Bits().add(0, 1).add(1, 1).bytes();
        dueFault("half a code", one(States.coded(2, 0, 1, Checks.join(told, half)), NO_SEQUENCES), 14, 14);
        byte[] whole = new States.Bits().add(0, 2).add(1, 1).bytes();
        dueRead("a whole code", one(States.coded(2, 0, 1, Checks.join(told, whole)), NO_SEQUENCES), Checks.bytes(1));
    }

    // A block of kind 2 that ends early, at each of its bytes up to the stream.
    private static void cutBlocks() {
        States.Share lengths = new States.Share(5, new int[] {10, 10, 12});
        States.Sequences all = new States.Sequences().add(2, 1, 4).add(1, 1, 4);
        byte[] told = Checks.join(TWO, States.stream(byTurns(4), TWO_LENGTHS));
        byte[] literals = States.coded(2, 0, 4, told);
        byte[] share = lengths.told();
        byte[] stream = all.stream(lengths, States.Share.alone(0), States.Share.alone(1));
        byte[] block = Checks.join(literals, all.number(), Checks.bytes(2 << 6 | 1 << 4 | 1 << 2), share, Checks.bytes(0, 1),
            stream);
        byte[] t = byTurns(4);
        byte[] want = Checks.join(Checks.part(t, 0, 2), Checks.same(t[1], 4), Checks.part(t, 2, 3), Checks.same(t[2], 4),
            Checks.part(t, 3, 4));
        dueRead("whole", one(block), want);
        int modes = literals.length + 1;
        int shareEnd = modes + 1 + share.length;
        for (int n = 0; n < block.length; n++) {
            byte[] cut = Checks.part(block, 0, n);
            int fault = n < modes + 1 ? 10 : n < shareEnd ? 16 : n < shareEnd + 2 ? 10 : 17;
            int place = fault == 10 ? n : fault == 16 ? modes : shareEnd + 2;
            if (n <= shareEnd + 2) {
                dueFault("a block cut at " + n, one(cut), fault, 9 + place);
                // What follows the block is not its own.
                dueFault("a block cut at " + n + ", more behind it", frame(packed(false, cut), plain(true, ABC)), fault,
                    9 + place);
            }
            dueFault("the row cut at " + n, Checks.part(one(block), 0, 9 + n), 1, 9 + n);
            // The same at the end of rows of 256 and 65,536 bytes.
            for (int limit : new int[] {256, 65536}) {
                int pad = limit - 8 - 9 - n;
                if (n <= shareEnd + 2) {
                    dueFault("a block at the end of " + limit, Checks.join(spare(80, pad, pad), one(cut)), fault,
                        limit - n + place);
                }
                dueFault("a frame at the end of " + limit, Checks.join(spare(80, pad, pad), Checks.part(one(block), 0, 9 + n)),
                    1, limit);
            }
        }
        byte[] head = Checks.join(MAGIC, Checks.bytes(192 + 3 + 4, 0), new byte[12], plain(true, ABC), new byte[4]);
        for (int n = 0; n < head.length; n++) {
            for (int limit : new int[] {256, 65536}) {
                int pad = limit - 8 - n;
                byte[] row = Checks.join(spare(80, pad, pad), Checks.part(head, 0, n));
                if (n == 0) {
                    dueRead("nothing behind spare bytes", row, NONE);
                } else {
                    dueFault(n + " bytes at the end of " + limit, row, 1, limit);
                }
            }
        }
        for (int k = 2; k < 4; k++) {
            for (int l = 0; l < 4; l++) {
                for (int n = 1; n < (l < 2 ? 3 : l + 2); n++) {
                    int pad = 256 - 8 - 9 - n;
                    byte[] cut = Checks.part(Checks.join(Checks.bytes(k | l << 2), new byte[4]), 0, n);
                    dueFault("a head of LITERALS at the end", Checks.join(spare(80, pad, pad), one(cut)), 10, 256);
                }
            }
        }
    }

    // CODES from now on, also of no LITERALS; TABLES likewise; each frame begins with none, or the DICTIONARY's.
    private static void keptCodes() {
        byte[] none = packed(false, States.coded(2, 0, 0, Checks.join(TWO, Checks.bytes(1))), NO_SEQUENCES);
        byte[] row = byTurns(9);
        byte[] again = packed(true, States.coded(3, 0, 9, States.stream(row, TWO_LENGTHS)), NO_SEQUENCES);
        dueRead("CODES as they were", frame(none, again), row);
        dueFault("no CODES", frame(again), 13, 9);
        dueFault("no CODES in the second frame", Checks.join(frame(none, packed(true, Checks.bytes(0, 0))), frame(again)), 13,
            frame(none, packed(true, Checks.bytes(0, 0))).length + 9);
        PackHouse x = new PackHouse();
        Checks.load(x, 3, formed(0));
        x.learn(3);
        // The DICTIONARY's CODES are those of TWO; another frame's are not kept.
        byte[] other = packed(true, States.coded(2, 0, 0, Checks.join(weighed(1, 1), Checks.bytes(1))), NO_SEQUENCES);
        Checks.dueRead("the DICTIONARY's CODES", x, 4, frame(again), 9, row);
        Checks.dueRead("again in the second frame", x, 4, Checks.join(frame(other), frame(again)), 9, row);
        // Its TABLES: symbols 0 and 1; its LATEST: 1, 2, 3.
        States.Share share = new States.Share(5, new int[] {31, 1});
        States.Sequences one = new States.Sequences().add(1, 1, 3);
        byte[] block = packed(true, States.plain(0, Checks.bytes(5)), Checks.bytes(1, 0xFC), one.stream(share, share, share));
        Checks.dueRead("the DICTIONARY's TABLES", x, 4, Checks.join(frame(block), frame(block)), 9, Checks.same(5, 8));
        x.forget(1);
        Checks.dueFault("no TABLES any more", x, 4, frame(block), 9, 16, 12);
        for (int t = 0; t < 3; t++) {
            byte[] mode3 = packed(true, States.plain(0, Checks.bytes(5)), Checks.bytes(1, 3 << 6 - 2 * t), Checks.same(255, 9));
            Checks.dueFault("no TABLE " + t + " any more", x, 4, frame(mode3), 9, 16, 12);
        }
        Checks.dueFault("no CODES any more", x, 4, frame(again), 9, 13, 9);
    }

    // Sequences of three bytes that take no bits, 10 bytes being there before.
    private static byte[] sequencesOf(byte[] number) {
        return frame(same(false, 97, 10), packed(true, Checks.bytes(0), number, Checks.bytes(84, 0, 0, 0, 1)));
    }

    private static void numbersOfSequences() {
        int[][] ways = {{1}, {2}, {126}, {127}, {128, 1}, {128, 127}, {128, 128}, {128, 255}, {129, 0}, {129, 1}, {200, 7}};
        for (int[] way : ways) {
            int n = way.length == 1 ? way[0] : 256 * (way[0] - 128) + way[1];
            PackHouse x = new PackHouse();
            Checks.dueRead(n + " sequences", x, 4, sequencesOf(Checks.bytes(way)), 65536, Checks.same(97, 10 + 3 * n));
            Checks.due("sequences done", x.about(15), n);
        }
        // 21,842 sequences come to 65,526 bytes: with more of them the next one is too many.
        for (int[] way : new int[][] {{213, 82}, {213, 83}, {254, 255}, {255, 0, 0}, {255, 255, 255}}) {
            PackHouse x = new PackHouse();
            byte[] all = sequencesOf(Checks.bytes(way));
            if (way[1] == 82) {
                Checks.dueRead("21842 sequences", x, 4, all, 65536, Checks.same(97, 65536));
            } else {
                Checks.dueFault("more sequences", x, 4, all, 65536, 7, 6 + 4 + 3 + 1 + way.length + 4);
            }
            Checks.due("sequences done", x.about(15), 21842);
        }
        byte[] lits = States.plain(0, ABC);
        dueRead("0 in one byte", one(lits, Checks.bytes(0)), ABC);
        dueRead("0 in two bytes", one(lits, Checks.bytes(128, 0)), ABC);
        dueFault("a byte behind 0", one(lits, Checks.bytes(0, 0)), 15, 14);
        dueFault("a byte behind 0 in two bytes", one(lits, Checks.bytes(128, 0, 0)), 15, 15);
        dueFault("one of two bytes", one(lits, Checks.bytes(254)), 10, 14);
        dueFault("two of three bytes", one(lits, Checks.bytes(255, 0)), 10, 15);
        dueFault("one of three bytes", one(lits, Checks.bytes(255)), 10, 14);
        for (int modes = 0; modes < 4; modes++) {
            byte[] block = Checks.join(lits, Checks.bytes(1, 84 | modes, 3, 0, 0, 1));
            if (modes == 0) {
                dueRead("MODES", one(block), Checks.text("abcccc"));
            } else {
                dueFault("MODES have " + modes, one(block), 15, 14);
                dueFault("MODES have " + modes + ", nothing behind them", one(Checks.part(block, 0, 6)), 15, 14);
            }
        }
    }

    // Tables of one symbol: LAST and one more, and each mode 3 without a table.
    private static void symbolsAlone() {
        byte[] lits = States.plain(0, ABC);
        for (int t = 0; t < 3; t++) {
            for (int more = 0; more <= 1; more++) {
                int symbol = States.LAST[t] + more;
                byte[] told = Checks.with(Checks.bytes(3, 0, 0), t, symbol);
                byte[] block = Checks.join(lits, Checks.bytes(1, 84), told, Checks.same(255, 9));
                // LAST may be: what comes of it is far too much, of whatever kind.
                int[] due = {19, 18, 20};
                dueFault("symbol " + symbol + " of table " + t, one(block), more == 1 ? 16 : due[t], more == 1 ? 14 : 18);
            }
            byte[] told = Checks.with(Checks.bytes(3, 0, 0), t, 255);
            dueFault("symbol 255", one(lits, Checks.bytes(1, 84), told, Checks.bytes(1)), 16, 14);
            byte[] others = t == 0 ? Checks.bytes(0, 0) : Checks.bytes(3, 0);
            dueFault("no TABLE as it was", one(lits, Checks.bytes(1, 84 | 2 << 6 - 2 * t), others, Checks.bytes(1)), 16, 14);
            for (int n = 0; n <= t; n++) {
                dueFault("a symbol lacks", one(lits, Checks.bytes(1, 84), Checks.part(Checks.bytes(3, 0, 0), 0, n)), 10, 15 + n);
            }
        }
        dueFault("a symbol above LAST ahead of one that lacks", one(lits, Checks.bytes(1, 84, 36)), 16, 14);
        dueFault("one that lacks ahead of no TABLE", one(lits, Checks.bytes(1, 64 | 48 | 4)), 10, 15);
        dueFault("no TABLE ahead of one that lacks", one(lits, Checks.bytes(1, 192 | 16 | 4)), 16, 14);
    }

    private static byte[] withShare(int t, byte[] share, States.Share table) {
        States.Share[] tables = KNOWN.clone();
        tables[t] = table;
        States.Sequences one = new States.Sequences().add(3, 1, 3);
        byte[] stream = table == null ? Checks.same(255, 9) : one.stream(tables);
        return one(States.plain(0, ABC), Checks.bytes(1, 2 << 6 - 2 * t), share, stream);
    }

    // Shares told of each order up to the greatest and one more, with points of LAST and of one more.
    private static void shares() {
        int[] symbols = {3, 0, 0};
        for (int t = 0; t < 3; t++) {
            int s = symbols[t];
            for (int order = 5; order <= States.GREATEST[t] + 1; order++) {
                for (int last = States.LAST[t] - 1; last <= States.LAST[t] + 1; last++) {
                    int[] points = new int[last + 1];
                    points[s] = (1 << order) - 3;
                    points[last] = 3;
                    States.Share table = new States.Share(order, points);
                    byte[] told = table.told();
                    String what = "table " + t + ", order " + order + ", last " + last;
                    if (order > States.GREATEST[t] || last > States.LAST[t]) {
                        dueFault(what, withShare(t, told, null), 16, 14);
                    } else {
                        dueRead(what, withShare(t, told, table), Checks.text("abcccc"));
                        byte[] end = one(States.plain(0, ABC), Checks.bytes(1, 2 << 6 - 2 * t),
                            Checks.part(told, 0, told.length - 1));
                        dueFault(what + ", its bytes end", end, 16, 14);
                        dueFault(what + ", nothing behind it", one(States.plain(0, ABC), Checks.bytes(1, 2 << 6 - 2 * t), told),
                            17, 14 + 1 + told.length);
                    }
                }
            }
            lackingShares(t);
            rareSymbols(t);
        }
    }

    // What lacks when LAST has its points, and symbols above LAST that are said to have none.
    private static void lackingShares(int t) {
        int last = States.LAST[t];
        for (int said = last - 1; said <= last + 3; said++) {
            // Symbol 0 has 16 points, 1 .. said have none; then one has the rest.
            States.Bits out = new States.Bits().add(0, 4);
            States.tellPoints(out, 32, 16);
            States.tellPoints(out, 16, 0);
            int zeros = said - 1;
            for (; zeros >= 3; zeros -= 3) {
                out.add(3, 2);
            }
            out.add(zeros, 2);
            States.tellPoints(out, 16, 16);
            PackHouse x = new PackHouse();
            Checks.load(x, 1, withShare(t, out.bytes(), null));
            int got = x.read(2, 1, 4, 65536);
            Checks.due("table " + t + ", none up to " + said, got == -16, said >= last);
        }
        // All symbols up to LAST have one point, the last one one less than lacks, then all.
        for (int less = 0; less < 2; less++) {
            int order = t == 1 ? 6 : 7;
            int left = 1 << order;
            States.Bits out = new States.Bits().add(order - 5, 4);
            for (int s = 0; s <= last; s++) {
                int p = s < last ? 1 : left - less;
                States.tellPoints(out, left, p);
                left -= p;
            }
            PackHouse x = new PackHouse();
            Checks.load(x, 1, withShare(t, out.bytes(), null));
            Checks.due("table " + t + ", " + less + " lack", x.read(2, 1, 4, 65536) == -16, less == 1);
        }
    }

    // Points -1: the highest places, in rising order of symbols; each takes all bits of the order.
    private static void rareSymbols(int t) {
        int[] points = new int[8];
        java.util.Arrays.fill(points, -1);
        points[3] = 25;
        States.Share table = new States.Share(5, points);
        States.Share[] tables = KNOWN.clone();
        tables[t] = table;
        States.Sequences all = new States.Sequences();
        int n = 20;
        for (int i = 0; i < 8; i++) {
            int literals = t == 0 ? i : 3;
            int length = t == 2 ? i + 3 : 6;
            all.add(literals, t == 1 ? 1 << Math.min(i, 4) : 8, length);
            n += literals + length;
        }
        Checks.due("all symbols have points", table.has(all.symbols(t)), true);
        int lits = 0;
        for (int[] q : all.all) {
            lits += q[0];
        }
        byte[] block = packed(true, States.plain(1, Checks.same(97, Math.max(1, lits))), all.number(),
            Checks.bytes(2 << 6 - 2 * t), table.told(), all.stream(tables));
        dueRead("points -1 in table " + t, frame(same(false, 97, 20), block), Checks.same(97, n));
    }

    // Each place of each KNOWN share as a first state: its symbol tells how many bits follow, and what comes of it.
    private static void knownShares() {
        for (int t = 0; t < 3; t++) {
            for (int p = 0; p < 1 << States.ORDERS[t]; p++) {
                int symbol = KNOWN[t].symbolAt[p];
                int[] s = {1, 0, 0};
                s[t] = symbol;
                int[] states = {KNOWN[0].lowest(s[0]), KNOWN[1].lowest(s[1]), KNOWN[2].lowest(s[2])};
                states[t] = p;
                int n = States.literalBase(s[0]);
                int length = States.matchBase(s[2]);
                int bits = States.literalBits(s[0]) + s[1] + States.matchBits(s[2]);
                long distance = symbol == 0 || t != 1 ? 1 : symbol == 1 ? 4 : (1L << symbol) - 3;
                for (int more = -1; more <= 1; more++) {
                    if (bits + more < 0) {
                        continue;
                    }
                    byte[] stream = new States.Bits().add(0, bits + more).add(states[2], 6).add(states[1], 5)
                        .add(states[0], 6).add(1, 1).bytes();
                    byte[] lits = Checks.join(Checks.number((long) n << 4 | 13, 3), Checks.bytes(120));
                    PackHouse x = new PackHouse();
                    Checks.load(x, 1, frame(same(false, 120, 10), packed(true, lits, Checks.bytes(1, 0), stream)));
                    int fault = more < 0 ? 17 : distance > 10 + n ? 18 : 10 + n + length > 65536 ? 7 : more > 0 ? 17 : 0;
                    Checks.due("table " + t + ", place " + p + ", " + more + " bits more", x.read(2, 1, 4, 65536),
                        fault > 0 ? -fault : 10 + n + length);
                }
            }
        }
    }

    // Bits for the first states and within each sequence, none left.
    private static void streamsOfSequences() {
        byte[] lits = States.plain(0, Checks.text("abcdef"));
        States.Sequences two = new States.Sequences().add(3, 7, 5).add(2, 9, 4);
        byte[] right = two.stream(KNOWN);
        PackHouse x = new PackHouse();
        byte[] ahead = same(false, 97, 40);
        byte[] head = Checks.join(lits, Checks.bytes(2, 0));
        Checks.load(x, 1, frame(ahead, packed(true, head, right)));
        Checks.due("just its bits", x.read(2, 1, 4, 65536), 40 + 6 + 9);
        Checks.due("sequences", x.about(15), 2);
        int at = 6 + 4 + 3 + head.length;
        byte[] raw = two.bits(KNOWN).bytes();
        int n = 8 * (right.length - 1) + States.highest(right[right.length - 1] & 255);
        for (int less = 1; less <= n; less++) {
            // The lowest bits go: those that are read last.
            byte[] cut = shifted(raw, n, less);
            PackHouse y = new PackHouse();
            Checks.load(y, 1, frame(ahead, packed(true, head, cut)));
            Checks.due("bits lack: " + less, y.read(2, 1, 4, 65536), -17);
            Checks.due("PLACE", y.about(0), at);
            // The second sequence has 3 additional bits; what is above them is the first one's and the states'.
            Checks.due("sequences done", y.about(15), less <= 3 ? 1 : 0);
            Checks.due("bytes that had come", y.about(16), less <= 3 ? 48 : 40);
        }
        for (int more = 1; more <= 9; more++) {
            byte[] longer = shifted(raw, n, -more);
            PackHouse y = new PackHouse();
            Checks.load(y, 1, frame(ahead, packed(true, head, longer)));
            Checks.due("bits are left: " + more, y.read(2, 1, 4, 65536), -17);
            Checks.due("PLACE", y.about(0), at);
            Checks.due("sequences done", y.about(15), 2);
            Checks.due("bytes that had come", y.about(16), 54);
        }
        dueFault("no byte", frame(ahead, packed(true, head)), 17, at);
        dueFault("a byte 0", frame(ahead, packed(true, head, right, Checks.bytes(0))), 17, at);
        dueFault("END alone", frame(ahead, packed(true, head, Checks.bytes(1))), 17, at);
        // Tables of one symbol that take no bits at all.
        byte[] alone = Checks.join(lits, Checks.bytes(1, 84, 3, 0, 0));
        dueRead("END alone, and no bits to be read", frame(ahead, packed(true, alone, Checks.bytes(1))),
            Checks.join(Checks.same(97, 40), Checks.text("abccccdef")));
        dueFault("no byte", frame(ahead, packed(true, alone)), 17, at + 3);
        dueFault("a byte 0", frame(ahead, packed(true, alone, Checks.bytes(0))), 17, at + 3);
        dueFault("END and a byte 0", frame(ahead, packed(true, alone, Checks.bytes(1, 0))), 17, at + 3);
        dueFault("a bit is left", frame(ahead, packed(true, alone, Checks.bytes(2))), 17, at + 3);
        for (int bits = 15; bits <= 18; bits++) {
            // 6 + 5 + 6 bits are the first states: at place 0 of each is a symbol 0, which takes none.
            byte[] few = new States.Bits().add(0, bits).add(1, 1).bytes();
            byte[] all = frame(ahead, packed(true, lits, Checks.bytes(1, 0), few));
            if (bits == 17) {
                dueRead("17 bits", all, Checks.join(Checks.same(97, 43), Checks.text("abcdef")));
            } else {
                dueFault(bits + " bits", all, 17, at);
            }
        }
    }

    // Takes off the lowest bits, or puts zeros below them, and sets the END.
    private static byte[] shifted(byte[] raw, int n, int less) {
        States.Bits out = new States.Bits();
        if (less < 0) {
            out.add(0, -less);
        }
        for (int i = Math.max(0, less); i < n; i++) {
            out.add(raw[i / 8] >> i % 8 & 1, 1);
        }
        return out.add(1, 1).bytes();
    }

    // One sequence by tables of one symbol, 10 bytes x being there before.
    private static byte[] single(int literals, int ofLiterals, int v, int length) {
        States.Sequences one = new States.Sequences().add(ofLiterals, v, length);
        byte[] lits = Checks.join(Checks.number((long) literals << 4 | 13, 3), Checks.bytes(120));
        int[] s = {one.symbols(0)[0], one.symbols(1)[0], one.symbols(2)[0]};
        return frame(same(false, 120, 10), packed(true, lits, Checks.bytes(1, 84, s[0], s[1], s[2]),
            one.stream(States.Share.alone(s[0]), States.Share.alone(s[1]), States.Share.alone(s[2]))));
    }

    private static void dueMany(String what, byte[] all, int n, int fault) {
        PackHouse x = new PackHouse();
        Checks.load(x, 1, all);
        Checks.due(what, x.read(2, 1, 4, 65536), fault == 0 ? n : -fault);
        Checks.due(what + ": PLACE", x.about(0), fault == 0 ? all.length : 6 + 4 + 3 + 4 + 5);
        if (fault == 0) {
            Checks.dueRow(what, x, 2, Checks.same(120, n));
        }
    }

    // Each symbol of literal lengths with the least and the most of its additional bits.
    private static void literalLengths() {
        for (int s = 0; s <= 35; s++) {
            for (int n : new int[] {States.literalBase(s), States.literalBase(s) + (1 << States.literalBits(s)) - 1}) {
                int all = 10 + n + 3;
                dueMany("literal length " + n, single(n, n, 1, 3), all, all <= 65536 ? 0 : all - 10 > 131072 ? 20 : 7);
                if (n > 0) {
                    dueMany("literal length " + n + ", one less is there", single(n - 1, n, 1, 3), all, 19);
                }
            }
        }
        dueMany("just as many as may be", single(65523, 65523, 1, 3), 65536, 0);
        dueMany("one more", single(65524, 65524, 1, 3), 65537, 7);
        dueMany("131072 of a block", single(131069, 131069, 1, 3), 0, 7);
        dueMany("131073 of a block", single(131070, 131070, 1, 3), 0, 20);
    }

    private static void matchLengths() {
        for (int s = 0; s <= 52; s++) {
            for (int n : new int[] {States.matchBase(s), States.matchBase(s) + (1 << States.matchBits(s)) - 1}) {
                dueMany("match length " + n, single(1, 1, 1, n), 11 + n, n <= 65525 ? 0 : n + 1 > 131072 ? 20 : 7);
            }
        }
        dueMany("just as many as may be", single(1, 1, 1, 65525), 65536, 0);
        dueMany("one more", single(1, 1, 1, 65526), 65537, 7);
        dueMany("131072 of a block", single(1, 1, 1, 131071), 0, 7);
        dueMany("131073 of a block", single(1, 1, 1, 131072), 0, 20);
    }

    // Each symbol of distances with the least and the most of its additional bits: as far as the content reaches.
    private static void distances() {
        for (int s = 2; s <= 31; s++) {
            for (long v : new long[] {1L << s, (2L << s) - 1}) {
                long distance = v - 3;
                for (int less = 0; less < 2; less++) {
                    long n = Math.min(distance - less, 65000);
                    if (n < 0) {
                        continue;
                    }
                    byte[] stream = new States.Bits().add(v - (1L << s), s).add(1, 1).bytes();
                    byte[] all = frame(same(false, 120, (int) n), packed(true, Checks.bytes(0, 1, 84, 0, s, 0), stream));
                    PackHouse x = new PackHouse();
                    Checks.load(x, 1, all);
                    String what = "distance " + distance + " in " + n;
                    Checks.due(what, x.read(2, 1, 4, 65536), distance <= n ? n + 3 : -18);
                    Checks.due(what + ": PLACE", x.about(0), distance <= n ? all.length : 6 + 4 + 3 + 6);
                }
            }
        }
        latest();
        windowsOfDistances();
        secondFrames();
    }

    // In a second frame a distance reaches the frame's own content and the DICTIONARY's, not what was before.
    private static void secondFrames() {
        byte[] first = frame(plain(true, Checks.text("0123456789")));
        for (int said = 0; said <= 2; said += 2) {
            for (int d = 2; d <= 8; d++) {
                PackHouse x = new PackHouse();
                Checks.load(x, 3, Checks.part(Checks.text("yz"), 0, said));
                x.learn(3);
                States.Sequences one = new States.Sequences().add(3, d + 3, 3);
                byte[] block = packed(true, States.plain(0, ABC), Checks.bytes(1, 0), one.stream(KNOWN));
                Checks.load(x, 1, Checks.join(first, frame(block)));
                boolean far = d > 3 + said;
                Checks.due(d + " back behind " + said, x.read(2, 1, 4, 65536), far ? -18 : 16);
                if (!far) {
                    String all = "yz".substring(0, said) + "abc";
                    String copy = (all + all.substring(all.length() - d)).substring(all.length(), all.length() + Math.min(d, 3));
                    Checks.dueRow("what is copied", x, 2, Checks.text("0123456789abc" + (copy + copy).substring(0, 3)));
                }
            }
        }
    }

    // LATEST 1, 4, 8 at first: v 1, 2, 3 behind a literal and behind none, in as many bytes as they reach, and one less.
    private static void latest() {
        int[][] due = {{1, 1, 1}, {1, 2, 4}, {1, 3, 8}, {0, 1, 4}, {0, 2, 8}, {0, 3, 0}};
        for (int[] way : due) {
            for (int n = Math.max(0, way[2] - way[0] - 1); n <= way[2] - way[0] + 1; n++) {
                byte[] row = new byte[n];
                for (int i = 0; i < n; i++) {
                    row[i] = (byte) (65 + i);
                }
                States.Sequences one = new States.Sequences().add(way[0], way[1], 3);
                byte[] lits = States.plain(0, Checks.part(Checks.bytes(33), 0, way[0]));
                byte[] all = frame(plain(false, row), packed(true, lits, Checks.bytes(1, 0), one.stream(KNOWN)));
                byte[] so = Checks.join(row, Checks.part(Checks.bytes(33), 0, way[0]));
                if (way[2] == 0 || way[2] > so.length) {
                    dueFault("v " + way[1] + " behind " + way[0], all, 18, 6 + 3 + n + 3 + lits.length + 2);
                } else {
                    byte[] copy = new byte[3];
                    for (int i = 0; i < 3; i++) {
                        int q = so.length - way[2] + i;
                        copy[i] = q < so.length ? so[q] : copy[q - so.length];
                    }
                    dueRead("v " + way[1] + " behind " + way[0], all, Checks.join(so, copy));
                }
            }
        }
    }

    // TOO FAR by the WINDOW: within the content, and in the DICTIONARY's.
    private static void windowsOfDistances() {
        for (int n = 1022; n <= 1027; n++) {
            for (int d = 1022; d <= 1030; d++) {
                for (int said = 0; said <= 4; said += 4) {
                    PackHouse x = new PackHouse();
                    Checks.load(x, 3, Checks.same(121, said));
                    x.learn(3);
                    int s = States.highest(d + 3);
                    byte[] stream = new States.Bits().add(d + 3 - (1L << s), s).add(1, 1).bytes();
                    byte[] all = Checks.join(MAGIC, Checks.bytes(0, 0), same(false, 120, n / 2), same(false, 120, n - n / 2),
                        packed(true, Checks.bytes(0, 1, 84, 0, s, 0), stream));
                    Checks.load(x, 1, all);
                    boolean far = d > n + said || d > 1024 && d <= n || d > n && n > 1024;
                    Checks.due(d + " back in " + n + " behind " + said, x.read(2, 1, 4, 65536), far ? -18 : n + 3);
                }
            }
        }
    }

    // LITERALS behind the last sequence, up to MOST OF A BLOCK and up to what may be.
    private static void literalsLeft() {
        byte[] head = Checks.join(MAGIC, Checks.bytes(0, 0));
        for (int n = 1019; n <= 1024; n++) {
            // n literals, one of them and a match of three in a sequence.
            States.Sequences one = new States.Sequences().add(1, 1, 3);
            byte[] lits = Checks.join(Checks.number((long) n << 4 | 5, 2), Checks.bytes(120));
            byte[] all = Checks.join(head, packed(true, lits, Checks.bytes(1, 0), one.stream(KNOWN)));
            if (n <= 1021) {
                dueRead(n + " literals and three", all, Checks.same(120, n + 3));
                dueFault("one less may be", all, n + 2, 7, 9 + 3 + 2);
            } else {
                dueFault(n + " literals and three", all, 20, 9 + 3 + 2);
                dueFault("ahead of fewer that may be", all, 9, 20, 9 + 3 + 2);
            }
        }
        // Two sequences that have 2 and 1 .. 3 literals of 4.
        for (int n = 1; n <= 3; n++) {
            States.Sequences two = new States.Sequences().add(2, 1, 3).add(n, 1, 3);
            byte[] all = one(States.plain(0, Checks.text("abcd")), Checks.bytes(2, 0), two.stream(KNOWN));
            if (n < 3) {
                dueRead("2 and " + n + " literals of 4", all, Checks.text(n == 1 ? "abbbbccccd" : "abbbbcdddd"));
            } else {
                dueFault("2 and 3 literals of 4", all, 19, 9 + 5 + 2);
            }
        }
        States.Sequences one = new States.Sequences().add(1, 1, 3);
        for (int most = 0; most <= 6; most++) {
            byte[] all = one(States.plain(0, ABC), Checks.bytes(1, 0), one.stream(KNOWN));
            PackHouse x = new PackHouse();
            Checks.load(x, 1, all);
            Checks.due("at most " + most, x.read(2, 1, 4, most), most == 6 ? 6 : -7);
            Checks.due("PLACE", x.about(0), most == 6 ? all.length : 9 + 4 + 2);
            Checks.due("sequences done", x.about(15), most >= 4 ? 1 : 0);
            Checks.due("bytes that had come", x.about(16), most == 6 ? 6 : most >= 4 ? 4 : 0);
        }
        for (int n = 0; n <= 3; n++) {
            States.Sequences some = new States.Sequences().add(n, 1, 3);
            byte[] all = frame(plain(false, ABC), packed(true, States.plain(0, Checks.part(ABC, 0, 2)), Checks.bytes(1, 0),
                some.stream(KNOWN)));
            PackHouse x = new PackHouse();
            Checks.load(x, 1, all);
            Checks.due(n + " literals of two", x.read(2, 1, 4, 65536), n == 0 ? -18 : n <= 2 ? 8 : -19);
        }
    }
}
