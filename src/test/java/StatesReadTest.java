/** Promises 19 and 23 in FORMAT 4: frames of states, made by hand, and each of their faults. */
public final class StatesReadTest {
    private static final byte[] MAGIC = Checks.bytes(40, 181, 47, 253);
    private static final byte[] ABC = Checks.text("abc");
    // LITERALS abc, a sequence of all three by tables of one symbol each: distance 3, length 3.
    private static final byte[] TWICE = Checks.bytes(24, 97, 98, 99, 1, 84, 3, 2, 0, 6);

    public static void main(String[] args) {
        heads();
        headFaults();
        cuts();
        plainBlocks();
        blockFaults();
        endFaults();
        literals();
        literalFaults();
        codedLiterals();
        codedFaults();
        sequences();
        latest();
        sequenceFaults();
        manySequences();
        tooFar();
        more();
        about();
        Checks.end("StatesReadTest");
    }

    private static byte[] block(int kind, int last, int n, byte[]... bytes) {
        return Checks.join(Checks.number(8L * n + 2 * kind + last, 3), Checks.join(bytes));
    }

    private static byte[] packed(int last, byte[]... bytes) {
        byte[] all = Checks.join(bytes);
        return block(2, last, all.length, all);
    }

    // WINDOW 2^20, no ID, no SIZE, no sum: the first block begins at 6, what it has at 9.
    private static byte[] frame(byte[]... blocks) {
        return Checks.join(MAGIC, Checks.bytes(0, 80), Checks.join(blocks));
    }

    private static byte[] one(byte[]... bytes) {
        return frame(packed(1, bytes));
    }

    private static void dueRead(String what, byte[] row, String want) {
        Checks.dueRead(what, new PackHouse(), 4, row, 65536, Checks.text(want));
    }

    private static void dueFault(String what, byte[] row, int fault, int place) {
        Checks.dueFault(what, new PackHouse(), 4, row, 65536, fault, place);
    }

    private static void heads() {
        byte[] b = block(0, 1, 3, ABC);
        dueRead("no bytes", new byte[0], "");
        dueRead("the least", frame(b), "abc");
        dueRead("16 counts for nothing", Checks.join(MAGIC, Checks.bytes(16, 0), b), "abc");
        dueRead("SIZE in a byte", Checks.join(MAGIC, Checks.bytes(32, 3), b), "abc");
        dueRead("SIZE in four", Checks.join(MAGIC, Checks.bytes(160, 3, 0, 0, 0), b), "abc");
        dueRead("SIZE in eight", Checks.join(MAGIC, Checks.bytes(192, 0, 3, 0, 0, 0, 0, 0, 0, 0), b), "abc");
        byte[] many = Checks.same(120, 300);
        Checks.dueRead("SIZE in two, 256 more", new PackHouse(), 4,
            Checks.join(MAGIC, Checks.bytes(96, 44, 0), block(0, 1, 300, many)), 300, many);
        for (int g = 1; g < 4; g++) {
            dueRead("ID 0 of form " + g, Checks.join(MAGIC, Checks.bytes(g, 0), new byte[g == 3 ? 4 : g], b), "abc");
        }
        byte[] sum = Checks.number(Checks.wide(ABC), 4);
        dueRead("SUMMED", Checks.join(MAGIC, Checks.bytes(4, 0), b, sum), "abc");
        byte[] spare = Checks.join(Checks.bytes(80, 42, 77, 24), Checks.number(1, 4), Checks.bytes(7));
        dueRead("frames and spare bytes", Checks.join(spare, frame(b), frame(b), spare), "abcabc");
        dueRead("spare bytes of none at the end", Checks.join(frame(b), Checks.part(spare, 0, 4), new byte[4]), "abc");
    }

    private static void headFaults() {
        byte[] b = block(0, 1, 3, ABC);
        dueFault("three bytes", Checks.bytes(40, 181, 47), 1, 3);
        dueFault("three other bytes", Checks.bytes(1, 2, 3), 1, 3);
        dueFault("three bytes behind a frame", Checks.join(frame(b), Checks.bytes(1, 2, 3)), 1, 15);
        dueFault("no frame", Checks.bytes(40, 181, 47, 252), 2, 0);
        dueFault("no frame behind one", Checks.join(frame(b), Checks.bytes(4, 34, 77, 24)), 2, 12);
        dueFault("HEAD has 8, ahead of the cut", Checks.join(MAGIC, Checks.bytes(8)), 3, 4);
        dueFault("an ID ahead of SIZE", Checks.join(MAGIC, Checks.bytes(193, 0, 7)), 4, 6);
        dueFault("an ID of two bytes", Checks.join(MAGIC, Checks.bytes(34, 0, 1)), 4, 5);
        dueFault("an ID that is cut", Checks.join(MAGIC, Checks.bytes(34, 1)), 1, 6);
        dueFault("spare bytes that are cut", Checks.join(frame(b), Checks.bytes(95, 42, 77, 24, 2, 0, 0, 0, 1)), 1, 21);
    }

    private static void cuts() {
        byte[] all = Checks.join(MAGIC, Checks.bytes(193 + 4, 0, 0, 8, 0, 0, 0, 0, 0, 0, 0), block(0, 0, 3, ABC),
            block(1, 0, 2, Checks.bytes(100)), block(2, 1, 5, Checks.bytes(24, 97, 98, 99, 0)));
        byte[] sum = Checks.number(Checks.wide(Checks.text("abcddabc")), 4);
        byte[] frame = Checks.join(all, sum);
        for (int n = 1; n < frame.length; n++) {
            dueFault("cut at " + n, Checks.part(frame, 0, n), 1, n);
        }
        dueRead("not cut", frame, "abcddabc");
    }

    private static void plainBlocks() {
        dueRead("kind 1", frame(block(1, 1, 5, Checks.bytes(97))), "aaaaa");
        dueRead("kind 1, no times", frame(block(1, 1, 0, Checks.bytes(97))), "");
        dueRead("kind 0 of none", frame(block(0, 1, 0)), "");
        dueRead("several", frame(block(0, 0, 3, ABC), block(1, 0, 1, Checks.bytes(100)), block(0, 1, 1,
            Checks.bytes(101))), "abcde");
    }

    private static void blockFaults() {
        dueFault("kind 3, ahead of the cut", frame(Checks.number(8 * 200000L + 6, 3)), 5, 6);
        dueFault("n above MOST OF A BLOCK, ahead of the cut", frame(Checks.number(8 * 131073L, 3)), 6, 6);
        dueFault("n not above it, but cut", frame(Checks.number(8 * 131072L, 3)), 1, 9);
        byte[] small = Checks.join(MAGIC, Checks.bytes(0, 0));
        dueFault("n above the WINDOW", Checks.join(small, block(1, 1, 1025, Checks.bytes(9))), 6, 6);
        byte[] single = Checks.join(MAGIC, Checks.bytes(32, 2));
        dueFault("n above SIZE, which is the WINDOW", Checks.join(single, block(0, 1, 3, ABC)), 6, 6);
        PackHouse x = new PackHouse();
        byte[] two = frame(block(0, 0, 3, ABC), block(1, 1, 3, Checks.bytes(9)));
        Checks.dueFault("too many of kind 0", x, 4, two, 2, 7, 6);
        Checks.dueFault("too many of kind 1", x, 4, two, 5, 7, 12);
        Checks.dueFault("too many in all frames", x, 4, Checks.join(two, two), 8, 7, 16 + 6);
        Checks.dueFault("too many, but cut", x, 4, frame(block(0, 1, 3, Checks.bytes(1, 2))), 2, 1, 11);
    }

    private static void endFaults() {
        byte[] b = block(0, 1, 3, ABC);
        byte[] sum = Checks.number(Checks.wide(ABC), 4);
        byte[] head = Checks.bytes(164, 4, 0, 0, 0);
        dueFault("the sum, ahead of SIZE", Checks.join(MAGIC, head, b, Checks.with(sum, 3, sum[3] + 1)), 8, 15);
        dueFault("SIZE", Checks.join(MAGIC, head, b, sum), 9, 5);
        dueFault("SIZE behind the sum that is cut", Checks.join(MAGIC, head, b, Checks.part(sum, 0, 3)), 1, 18);
        dueFault("SIZE of eight bytes", Checks.join(MAGIC, Checks.bytes(192, 0, 3, 0, 0, 0, 0, 0, 0, 1), b), 9, 6);
    }

    private static void literals() {
        dueRead("one byte's head", one(Checks.bytes(24), ABC, Checks.bytes(0)), "abc");
        dueRead("an odd number is l 2", one(Checks.bytes(8, 97, 0)), "a");
        dueRead("two bytes' head", one(Checks.number(3 << 4 | 4, 2), ABC, Checks.bytes(0)), "abc");
        dueRead("three bytes' head", one(Checks.number(3 << 4 | 12, 3), ABC, Checks.bytes(0)), "abc");
        dueRead("a byte so many times", one(Checks.bytes(41, 97, 0)), "aaaaa");
        dueRead("a byte so many times, two bytes", one(Checks.number(5 << 4 | 5, 2), Checks.bytes(97, 0)), "aaaaa");
        dueRead("none", one(Checks.bytes(0, 0)), "");
        dueRead("0 sequences in two bytes", one(Checks.bytes(24), ABC, Checks.bytes(128, 0)), "abc");
        Checks.dueRead("many", new PackHouse(), 4, one(Checks.number(60000 << 4 | 13, 3), Checks.bytes(7, 0)), 60000,
            Checks.same(7, 60000));
    }

    private static void literalFaults() {
        dueFault("a block of no bytes", one(), 10, 9);
        dueFault("a head that is cut", one(Checks.bytes(4)), 10, 10);
        dueFault("a head of three that is cut", one(Checks.bytes(12, 0)), 10, 11);
        dueFault("a head that is cut, bytes behind the block", Checks.join(frame(packed(0, Checks.bytes(12))),
            Checks.same(255, 9)), 10, 10);
        dueFault("literals lack", one(Checks.bytes(24), Checks.text("ab")), 10, 12);
        dueFault("the byte lacks", one(Checks.bytes(41)), 10, 10);
        dueFault("no number of sequences", one(Checks.bytes(24), ABC), 10, 13);
        dueFault("half a number", one(Checks.bytes(24), ABC, Checks.bytes(128)), 10, 14);
        dueFault("two thirds of a number", one(Checks.bytes(24), ABC, Checks.bytes(255, 1)), 10, 15);
        dueFault("no MODES", one(Checks.bytes(24), ABC, Checks.bytes(1)), 10, 14);
        dueFault("bytes follow 0 sequences", one(Checks.bytes(24), ABC, Checks.bytes(0, 0)), 15, 14);
        dueFault("above MOST OF A BLOCK", one(Checks.number(131073 << 4 | 13, 3)), 11, 9);
        byte[] small = Checks.join(MAGIC, Checks.bytes(0, 0));
        dueFault("above the WINDOW", Checks.join(small, packed(1, Checks.number(1025 << 4 | 4, 2))), 11, 9);
        PackHouse x = new PackHouse();
        Checks.dueFault("too many LITERALS", x, 4, one(Checks.bytes(24), ABC, Checks.bytes(0)), 2, 7, 9);
        byte[] most = one(Checks.number(131072 << 4 | 13, 3), Checks.bytes(7, 0));
        Checks.dueFault("more LITERALS than a row has", x, 4, most, 65536, 7, 9);
    }

    // Codes of a and b, one bit each: a 0, b 1; k 97 weights 0 and one 1.
    private static byte[] description() {
        byte[] b = new byte[50];
        b[0] = (byte) (127 + 98);
        b[49] = 1;
        return b;
    }

    private static byte[] coded(int k, int l, int n, byte[]... parts) {
        byte[] all = Checks.join(parts);
        int width = l < 2 ? 10 : l == 2 ? 14 : 18;
        long head = k | l << 2 | (long) n << 4 | (long) all.length << 4 + width;
        return Checks.join(Checks.number(head, l < 2 ? 3 : l + 2), all);
    }

    private static void codedLiterals() {
        byte[] none = Checks.bytes(0);
        // a b b from bit 0 on backwards: b b a, then the END.
        dueRead("one stream", one(coded(2, 0, 3, description(), Checks.bytes(1 + 2 + 8)), none), "abb");
        dueRead("no literals", one(coded(2, 0, 0, description(), Checks.bytes(1)), none), "");
        byte[] four = Checks.join(Checks.bytes(1, 0, 1, 0, 1, 0), Checks.bytes(2, 3, 2, 3));
        for (int l = 1; l <= 3; l++) {
            dueRead("four streams, l " + l, one(coded(2, l, 4, description(), four), none), "abab");
        }
        byte[] short4 = Checks.join(Checks.bytes(1, 0, 1, 0, 1, 0), Checks.bytes(2, 3, 2, 1));
        dueRead("the fourth has none", one(coded(2, 1, 3, description(), short4), none), "aba");
        byte[] no4 = Checks.join(Checks.bytes(1, 0, 1, 0, 1, 0), Checks.bytes(1, 1, 1, 1));
        dueRead("all four have none", one(coded(2, 1, 0, description(), no4), none), "");
        // By states: weights 2, 1 and the next one 1; codes 1, 00 and 01. The second stream: 0 1 2.
        byte[] byStates = Checks.bytes(5, 16, 136, 31, 96, 4);
        dueRead("a description by states", one(coded(2, 0, 3, byStates, Checks.bytes(1 | 16 | 32)), none), "\0\1\2");
        byte[] most = Checks.bytes(6, 16, 240, 1, 0, 66, 252);
        dueRead("255 weights", one(coded(2, 0, 0, most, Checks.bytes(1)), none), "");
        byte[] tooMany = Checks.bytes(6, 16, 240, 1, 0, 98, 252);
        dueFault("256 weights", one(coded(2, 0, 0, tooMany, Checks.bytes(1)), none), 12, 12);
        byte[] ever = Checks.bytes(4, 16, 4, 0, 16);
        dueFault("weights that take no bits and never end", one(coded(2, 0, 0, ever, Checks.bytes(1)), none), 12, 12);
        byte[] first = packed(0, coded(2, 0, 3, description(), Checks.bytes(11)), none);
        dueRead("CODES as they were", frame(first, block(1, 0, 1, Checks.bytes(97)), packed(1, coded(3, 0, 2, Checks.bytes(6)), none)),
            "abbaba");
    }

    private static void codedFaults() {
        byte[] none = Checks.bytes(0);
        dueFault("a head that is cut", one(Checks.bytes(2, 0)), 10, 11);
        dueFault("a head of five that is cut", one(Checks.bytes(14, 0, 0, 0)), 10, 13);
        for (int n : new int[] {1, 2, 5}) {
            dueFault("four streams of " + n, one(Checks.number(2 | 4 | n << 4 | 900 << 14, 3)), 11, 9);
        }
        dueFault("four streams of 6, but cut", one(Checks.number(2 | 4 | 6 << 4 | 900 << 14, 3)), 10, 12);
        dueFault("no CODES, ahead of the bytes told", one(Checks.number(3 | 6 << 4 | 900 << 14, 3)), 13, 9);
        dueFault("no CODES, behind 11", one(Checks.number(3 | 4 | 5 << 4, 3)), 11, 9);
        dueFault("no CODES of the frame before", Checks.join(one(coded(2, 0, 3, description(), Checks.bytes(11)), none),
            one(coded(3, 0, 2, Checks.bytes(6)), none)), 13, 9 + 3 + 51 + 1 + 9);
        dueFault("no DESCRIPTION", one(coded(2, 0, 3), none), 12, 12);
        dueFault("a DESCRIPTION that is cut", one(coded(2, 0, 3, Checks.part(description(), 0, 49)), none), 12, 12);
        byte[] stray = Checks.with(description(), 49, 2);
        dueFault("a DESCRIPTION with no two weights 1", one(coded(2, 0, 3, stray, Checks.bytes(11)), none), 12, 12);
        dueFault("no weight at all", one(coded(2, 0, 3, Checks.with(stray, 49, 0), Checks.bytes(11)), none), 12, 12);
        dueFault("a weight too great", one(coded(2, 0, 3, Checks.bytes(128, 0xC0), Checks.bytes(11)), none), 12, 12);
        byte[] all = Checks.bytes(139, 0xCB, 0xA9, 0x87, 0x65, 0x43, 0x21);
        dueFault("lengths up to 12", one(coded(2, 0, 3, all, Checks.bytes(11)), none), 12, 12);
        byte[] even = Checks.bytes(139, 0x11, 0x23, 0x45, 0x67, 0x89, 0xAB);
        dueFault("lengths up to 12, and 2048 in all", one(coded(2, 0, 3, even, Checks.bytes(11)), none), 12, 12);
        byte[] most = Checks.bytes(138, 0xBA, 0x98, 0x76, 0x54, 0x32, 0x10);
        dueRead("lengths up to 11", one(coded(2, 0, 3, most, Checks.bytes(15)), none), "\0\0\0");
        dueFault("what lacks is no power of two", one(coded(2, 0, 3, Checks.bytes(129, 0x31), Checks.bytes(11)), none),
            12, 12);
        dueFault("by states, no share", one(coded(2, 0, 3, Checks.bytes(0), Checks.bytes(11)), none), 12, 12);
        int at = 12 + 50;
        dueFault("no stream", one(coded(2, 0, 3, description()), none), 14, at);
        dueFault("a stream ends with 0", one(coded(2, 0, 3, description(), Checks.bytes(0)), none), 14, at);
        dueFault("eight bits and then 0", one(coded(2, 0, 8, description(), Checks.bytes(85, 0)), none), 14, at);
        dueFault("a bit too few", one(coded(2, 0, 3, description(), Checks.bytes(6)), none), 14, at);
        dueFault("a bit too many", one(coded(2, 0, 3, description(), Checks.bytes(16)), none), 14, at);
        byte[] five = Checks.bytes(1, 0, 1, 0, 1);
        dueFault("no three numbers", one(coded(2, 1, 4, description(), five), none), 14, at);
        byte[] six = Checks.bytes(1, 0, 1, 0, 1, 0);
        dueFault("three numbers and nothing behind", one(coded(2, 1, 4, description(), six), none), 14, at);
        byte[] far = Checks.join(Checks.bytes(1, 0, 1, 0, 3, 0), Checks.bytes(2, 3, 2, 3));
        dueFault("numbers that reach beyond", one(coded(2, 1, 4, description(), far), none), 14, at);
        byte[] wrong = Checks.join(Checks.bytes(1, 0, 1, 0, 1, 0), Checks.bytes(2, 3, 1, 0));
        dueFault("the third stream is the first such one", one(coded(2, 1, 4, description(), wrong), none), 14, at + 8);
        byte[] last = Checks.join(Checks.bytes(1, 0, 1, 0, 1, 0), Checks.bytes(2, 3, 2));
        dueFault("the fourth has no byte", one(coded(2, 1, 4, description(), last), none), 14, at + 9);
    }

    private static void sequences() {
        dueRead("one by tables of one symbol", one(TWICE), "abcabc");
        byte[] near = Checks.with(Checks.with(TWICE, 6, 2), 9, 4);
        dueRead("literals behind it", one(near), "abbbbc");
        byte[] again = Checks.bytes(24, 97, 98, 99, 1, 252, 6);
        dueRead("TABLES as they were", frame(packed(0, TWICE), packed(1, again)), "abcabcabcabc");
        dueFault("no TABLES of the frame before", Checks.join(one(TWICE), one(again)), 16, 19 + 14);
        dueRead("literals behind 0 sequences leave TABLES", frame(packed(0, TWICE), packed(0, Checks.bytes(8, 100, 0)),
            packed(1, again)), "abcabcdabcabc");
    }

    private static void latest() {
        // Literal lengths 1, match lengths 3; distances by bits: v 1, 2, 3, behind one literal each.
        byte[] lits = Checks.bytes(8 * 12);
        byte[] some = Checks.text("abcdefghijkl");
        // First a sequence of nine literals and distance 8 as the third of LATEST, symbol 1 with bit 1: v 3.
        byte[] third = Checks.bytes(1, 84, 9, 1, 0, 3);
        dueRead("the third", one(lits, some, third), "abcdefghibcdjkl");
        // The third twice: 8, then what was the second; literal lengths 9 and 1 by the known share.
        byte[] once = packed(0, lits, some, third);
        byte[] more = packed(1, Checks.bytes(8, 33), Checks.bytes(1, 84, 1, 1, 0, 3));
        dueRead("the third, which goes behind", frame(once, more), "abcdefghibcdjkl!jkl");
        byte[] second = Checks.bytes(1, 84, 9, 1, 0, 2);
        dueRead("the second", one(lits, some, second), "abcdefghifghjkl");
        byte[] first = Checks.bytes(1, 84, 9, 0, 0, 1);
        dueRead("the first", one(lits, some, first), "abcdefghiiiijkl");
        // Behind no literals: v 1 is the second, v 2 the third, v 3 the first less 1.
        byte[] ahead = block(0, 0, 12, some);
        dueRead("v 1 behind none", frame(ahead, packed(1, Checks.bytes(0, 1, 84, 0, 0, 0, 1))), "abcdefghijklijk");
        dueRead("v 2 behind none", frame(ahead, packed(1, Checks.bytes(0, 1, 84, 0, 1, 0, 2))), "abcdefghijklefg");
        dueFault("v 3 behind none is 0", frame(ahead, packed(1, Checks.bytes(0, 1, 84, 0, 1, 0, 3))), 18, 6 + 15 + 9);
        // Two sequences: v 7 (distance 4), then v 3 behind none: 4 less 1; symbols 2, 1 need a share: known.
        byte[] far = packed(0, Checks.bytes(0, 1, 84, 0, 2, 0, 1 << 2 | 3));
        byte[] less = packed(1, Checks.bytes(0, 1, 84, 0, 1, 0, 3));
        dueRead("LATEST stay for the next block", frame(ahead, far, less), "abcdefghijklijkijk");
        byte[] swap = packed(1, Checks.bytes(0, 1, 84, 0, 0, 0, 1));
        dueRead("the second changes with the first", frame(ahead, far, swap), "abcdefghijklijkkkk");
    }

    private static void sequenceFaults() {
        int at = 9 + 9;
        dueFault("MODES have 1", one(Checks.with(TWICE, 5, 85)), 15, 14);
        dueFault("MODES have 2", one(Checks.with(TWICE, 5, 86)), 15, 14);
        dueFault("a symbol lacks", one(Checks.part(TWICE, 0, 7)), 10, 16);
        dueFault("a literal length's symbol", one(Checks.with(TWICE, 6, 36)), 16, 14);
        dueFault("a distance's symbol", one(Checks.with(TWICE, 7, 32)), 16, 14);
        dueFault("a match length's symbol", one(Checks.with(TWICE, 8, 53)), 16, 14);
        dueFault("no TABLE as it was", one(Checks.with(TWICE, 5, 84 | 128)), 16, 14);
        dueFault("a share of no bytes", one(Checks.join(Checks.part(TWICE, 0, 5), Checks.bytes(128))), 16, 14);
        dueFault("a share of order 10", one(Checks.join(Checks.part(TWICE, 0, 5), Checks.bytes(128, 5, 0, 0))), 16, 14);
        dueFault("no stream", one(Checks.part(TWICE, 0, 9)), 17, at);
        dueFault("a stream that ends with 0", one(Checks.with(TWICE, 9, 0)), 17, at);
        dueFault("eight bits and then 0", one(Checks.with(Checks.part(TWICE, 0, 9), 7, 8), Checks.bytes(9, 0)), 17, at);
        dueFault("a bit lacks", one(Checks.with(TWICE, 9, 3)), 17, at);
        dueFault("a bit is left", one(Checks.with(TWICE, 9, 12)), 17, at);
        dueFault("first states lack", one(Checks.with(Checks.part(TWICE, 0, 6), 5, 0), Checks.bytes(255, 255)), 17, 15);
        dueFault("more LITERALS than are left", one(Checks.with(TWICE, 6, 4)), 19, at);
        dueFault("too few bits, ahead of the LITERALS", one(Checks.with(Checks.with(TWICE, 6, 4), 9, 3)), 17, at);
        dueFault("a distance, behind the LITERALS", one(Checks.with(Checks.with(TWICE, 6, 4), 9, 7)), 19, at);
        dueFault("a distance", one(Checks.with(TWICE, 9, 7)), 18, at);
        PackHouse x = new PackHouse();
        Checks.dueFault("too many in a sequence", x, 4, one(TWICE), 5, 7, at);
        Checks.dueFault("a distance, ahead of too many", x, 4, one(Checks.with(TWICE, 9, 7)), 5, 18, at);
        byte[] left = Checks.join(Checks.bytes(32), Checks.text("abcd"), Checks.part(TWICE, 4, 10));
        Checks.dueFault("too many behind the sequences", x, 4, one(left), 6, 7, at + 1);
        Checks.due("the sequence was done", x.about(15), 1);
        Checks.due("its bytes had come", x.about(16), 6);
        Checks.dueFault("bits left, ahead of that", x, 4, one(Checks.with(left, 10, 12)), 6, 17, at + 1);
    }

    // 32512 sequences that take no bits: three bytes each, until no more may be.
    private static void manySequences() {
        PackHouse x = new PackHouse();
        byte[] all = frame(block(1, 0, 10, Checks.bytes(97)), packed(1, Checks.bytes(0, 255, 0, 0, 84, 0, 0, 0, 1)));
        Checks.dueFault("too many sequences", x, 4, all, 65536, 7, 6 + 4 + 3 + 8);
        Checks.due("sequences done", x.about(15), 21842);
        Checks.due("bytes that had come", x.about(16), 65536);
        byte[] two = frame(block(1, 0, 10, Checks.bytes(97)), packed(1, Checks.bytes(0, 129, 2, 84, 0, 0, 0, 1)));
        Checks.dueRead("258 sequences", x, 4, two, 65536, Checks.same(97, 10 + 3 * 258));
    }

    private static void tooFar() {
        PackHouse x = new PackHouse();
        Checks.load(x, 0, Checks.text("0123456789"));
        Checks.due("learn", x.learn(0), 10);
        // Distance 10 + 3, then one more: v 16 .. 31 takes four bits; literals abc.
        byte[] reach = Checks.join(Checks.bytes(24), ABC, Checks.bytes(1, 84, 3, 4, 0));
        Checks.dueRead("the dictionary's first byte", x, 4, one(reach, Checks.bytes(16)), 99, Checks.text("abc012"));
        Checks.dueFault("one further", x, 4, one(reach, Checks.bytes(17)), 99, 18, 18);
        byte[] single = Checks.join(MAGIC, Checks.bytes(32, 12));
        Checks.dueFault("above SIZE, behind the content", x, 4, Checks.join(single, packed(1, reach, Checks.bytes(16))),
            99, 9, 5);
        // A WINDOW of 1024 and content of 1024 and more, told by blocks of kind 1.
        byte[] head = Checks.join(MAGIC, Checks.bytes(0, 0));
        byte[] full = block(1, 0, 1023, Checks.bytes(120));
        byte[] y = block(0, 0, 1, Checks.bytes(121));
        // Distances by 10 bits: v = 1024 + bits, distance v - 3.
        byte[] far = Checks.bytes(0, 1, 84, 0, 10, 0);
        byte[] to1024 = packed(1, far, Checks.number(1 << 10 | 3, 2));
        byte[] to1025 = packed(1, far, Checks.number(1 << 10 | 4, 2));
        byte[] to1034 = packed(1, far, Checks.number(1 << 10 | 13, 2));
        Checks.due("within the WINDOW", readSum(x, Checks.join(head, full, y, to1024)), 1027);
        Checks.due("the dictionary as long as the content is not above the WINDOW",
            readSum(x, Checks.join(head, full, y, to1025)), 1027);
        Checks.due("its first byte", readSum(x, Checks.join(head, full, y, to1034)), 1027);
        Checks.due("of the dictionary", x.byteAt(2, 1024) + 256 * x.byteAt(2, 1026), 48 + 256 * 50);
        Checks.due("above the WINDOW within the content", readSum(x, Checks.join(head, full, y, y, to1025)), -18);
        Checks.due("the dictionary when the content is above the WINDOW",
            readSum(x, Checks.join(head, full, y, y, to1034)), -18);
    }

    private static int readSum(PackHouse x, byte[] row) {
        Checks.load(x, 1, row);
        return x.read(2, 1, 4, 65536);
    }

    private static void more() {
        // MOST OF A BLOCK is the WINDOW of 1024: 1022 literals of one byte and a match of three are too many.
        byte[] head = Checks.join(MAGIC, Checks.bytes(0, 0));
        byte[] lits = Checks.join(Checks.number(1022 << 4 | 5, 2), Checks.bytes(120));
        // Literal length 512 + 9 bits (510), symbol 28; distance symbol 0: the first.
        byte[] most = Checks.join(lits, Checks.bytes(1, 84, 28, 0, 0), Checks.number(510 | 1 << 9, 2));
        dueFault("the block comes to more than MOST OF A BLOCK", Checks.join(head, packed(1, most)), 20, 9 + 3 + 5);
        byte[] short8 = Checks.join(lits, Checks.bytes(1, 84, 28, 0, 0), Checks.number(254 | 1 << 8, 2));
        dueFault("a bit of a literal length lacks", Checks.join(head, packed(1, short8)), 17, 9 + 3 + 5);
        byte[] match = Checks.join(Checks.bytes(8, 120, 1, 84, 1, 0, 42), Checks.bytes(31 | 1 << 5));
        dueRead("five bits of a match length", frame(packed(1, match)), "x".repeat(1 + 99 + 31));
        byte[] shortMatch = Checks.join(Checks.bytes(8, 120, 1, 84, 1, 0, 42), Checks.bytes(15 | 1 << 4));
        dueFault("a bit of a match length lacks", frame(packed(1, shortMatch)), 17, 9 + 7);
        byte[] fewer = Checks.join(Checks.number(1022 << 4 | 5, 2), Checks.bytes(120, 1, 84, 28, 0, 0),
            Checks.number(1 << 9, 2));
        dueFault("by the literals left", Checks.join(head, packed(1, fewer)), 20, 9 + 3 + 5);
        byte[] just = Checks.join(Checks.number(1021 << 4 | 5, 2), Checks.bytes(120, 1, 84, 28, 0, 0),
            Checks.number(1 << 9, 2));
        Checks.dueRead("just as many", new PackHouse(), 4, Checks.join(head, packed(1, just)), 1024,
            Checks.same(120, 1024));
    }

    private static void about() {
        PackHouse x = new PackHouse();
        byte[] two = Checks.join(frame(packed(0, TWICE), packed(1, TWICE)),
            Checks.join(MAGIC, Checks.bytes(32, 12), packed(0, TWICE), packed(1, TWICE)));
        Checks.load(x, 1, two);
        Checks.due("read", x.read(2, 1, 4, 65536), 24);
        dueCounts("all", x, 2, 4, 4, 24, 12);
        Checks.load(x, 1, frame(packed(0, TWICE), packed(1, Checks.with(TWICE, 6, 4))));
        Checks.due("read with a fault", x.read(2, 1, 4, 65536), -19);
        dueCounts("up to the fault", x, 1, 2, 1, 6, 1 << 20);
        Checks.due("not counted when refused", x.read(2, 1, 4, -1), -50);
        Checks.due("nor in another format", x.read(2, 1, 2, 5), -3);
        dueCounts("as before", x, 1, 2, 1, 6, 1 << 20);
        Checks.load(x, 1, Checks.join(MAGIC, Checks.bytes(8)));
        x.read(2, 1, 4, 9);
        dueCounts("HEAD with 8", x, 1, 0, 0, 0, 0);
        Checks.load(x, 1, Checks.join(MAGIC, Checks.bytes(1, 255, 9)));
        x.read(2, 1, 4, 9);
        dueCounts("a WINDOW that no int has, ahead of an ID", x, 1, 0, 0, 0, Integer.MAX_VALUE);
        Checks.load(x, 1, Checks.join(MAGIC, Checks.bytes(0, 9), Checks.bytes(7, 0, 0)));
        x.read(2, 1, 4, 9);
        dueCounts("a block of kind 3", x, 1, 1, 0, 0, 2048 + 256);
        Checks.load(x, 1, Checks.join(frame(block(0, 1, 3, ABC)), MAGIC, Checks.bytes(0)));
        x.read(2, 1, 4, 9);
        dueCounts("a second frame that tells no WINDOW", x, 2, 1, 0, 3, 1 << 20);
        Checks.load(x, 1, Checks.join(MAGIC, Checks.bytes(224), Checks.same(255, 8)));
        x.read(2, 1, 4, 9);
        dueCounts("SIZE without a sign", x, 1, 0, 0, 0, Integer.MAX_VALUE);
        Checks.load(x, 1, frame(block(0, 0, 3, ABC), block(0, 1, 3, ABC)));
        x.read(2, 1, 4, 5);
        dueCounts("a block that is too much", x, 1, 2, 0, 3, 1 << 20);
    }

    private static void dueCounts(String what, PackHouse x, int... counts) {
        for (int i = 0; i < 5; i++) {
            Checks.due(what + ": about " + (13 + i), x.about(13 + i), counts[i]);
        }
    }
}
