/** Promise 19: each fault of each FORMAT, with its place; all but PLACE and what about() counts of FORMAT 4 is as it was. */
public final class FaultsTest {
    private static final byte[] PAST = Checks.text("HISTORY");
    private static final byte[] SAID = Checks.text("DICTIONARY");
    private static final byte[] TOKENS = Checks.bytes(4, 34, 77, 24);
    private static final byte[] TAGS = Checks.bytes(255, 6, 0, 0, 115, 78, 97, 80, 112, 89);
    private static final byte[] STATES = Checks.bytes(40, 181, 47, 253);
    private static final byte[] ABC = Checks.text("abc");
    private static final byte[] END = new byte[4];

    public static void main(String[] args) {
        blocksOfTokens();
        framesOfTokens();
        blocksOfTags();
        streamsOfTags();
        framesOfStates();
        blocksOfStates();
        firstOfAnElement();
        firstOfLiterals();
        firstOfASequence();
        firstBehindSequences();
        Checks.end("FaultsTest");
    }

    // A house in which nothing is as at first.
    private static PackHouse ready() {
        PackHouse x = new PackHouse();
        Checks.load(x, 0, PAST);
        x.history(0);
        Checks.load(x, 0, SAID);
        x.learn(0);
        x.set(0, 3);
        x.set(2, 7);
        x.set(9, -4);
        Checks.load(x, 0, Checks.text("other"));
        x.write(3, 0, 4);
        Checks.load(x, 2, Checks.text("stays"));
        return x;
    }

    private static void due(int format, int fault, int place, byte[]... parts) {
        due(format, fault, place, 65536, parts);
    }

    private static void due(int format, int fault, int place, int most, byte[]... parts) {
        String what = "FORMAT " + format + ", fault " + fault;
        PackHouse x = ready();
        Checks.load(x, 1, Checks.join(parts));
        long[] before = Checks.state(x);
        Checks.due(what, x.read(2, 1, format, most), -fault);
        long[] after = Checks.state(x);
        // Eight of rows, ten of SETTINGS, then those of about().
        Checks.due(what + ": PLACE", after[18], place);
        before[18] = place;
        for (int i = 13; i <= 17 && format == 4; i++) {
            before[18 + i] = after[18 + i];
        }
        Checks.due(what + ": all else is as it was", java.util.Arrays.equals(before, after), true);
        stillKnown(what, x);
        if (format == 1 || format == 3 && fault != 8 || format == 4) {
            opened(what, format, fault, place, most, parts);
        }
    }

    // open() answers the same, if kind() can tell the FORMAT.
    private static void opened(String what, int format, int fault, int place, int most, byte[]... parts) {
        PackHouse x = ready();
        Checks.load(x, 1, Checks.join(parts));
        if (x.kind(1) == format) {
            Checks.due(what + ", opened", x.open(2, 1, most), -fault);
            Checks.due(what + ", opened: PLACE", x.about(0), place);
            Checks.dueRow(what + ", opened", x, 2, Checks.text("stays"));
        }
    }

    private static void stillKnown(String what, PackHouse x) {
        Checks.load(x, 0, Checks.bytes(0x03, 7, 0, 0));
        Checks.due(what + ": HISTORY", x.read(1, 0, 0, 99), 7);
        Checks.dueRow(what + ": HISTORY", x, 1, PAST);
        // No literals, distance 10 by symbol 3 and three bits; match length 10.
        Checks.load(x, 0, frame(packed(Checks.bytes(0, 1, 84, 0, 3, 7, 13))));
        Checks.due(what + ": DICTIONARY", x.read(1, 0, 4, 99), 10);
        Checks.dueRow(what + ": DICTIONARY", x, 1, SAID);
    }

    private static void blocksOfTokens() {
        due(0, 1, 0);
        due(0, 1, 3, Checks.bytes(0x30, 1, 2));
        due(0, 2, 2, Checks.bytes(0x10, 1, 9, 0, 0));
        due(0, 3, 3, 2, Checks.bytes(0x30, 1, 2, 3));
        due(0, 3, 2, 4, Checks.bytes(0x10, 1, 1, 0, 0));
    }

    private static byte[] head(int flags, byte[]... more) {
        byte[] told = Checks.join(Checks.bytes(flags, 64), Checks.join(more));
        return Checks.join(TOKENS, told, Checks.bytes(Checks.narrow(told, 0) >>> 8));
    }

    private static void framesOfTokens() {
        byte[] plain = Checks.join(Checks.number(1L << 31 | 3, 4), ABC);
        byte[] sum = Checks.number(Checks.narrow(ABC, 0), 4);
        due(1, 1, 3, Checks.bytes(4, 34, 77));
        due(1, 1, 14, head(64), plain);
        due(1, 2, 13, head(64), Checks.bytes(5, 0, 0, 0, 0x10, 1, 9, 0, 0), END);
        due(1, 3, 13, 2, head(64), plain, END);
        due(1, 4, 18, head(64), plain, END, ABC, ABC);
        due(1, 5, 4, Checks.with(head(64), 4, 66));
        due(1, 5, 5, Checks.with(head(64), 5, 65));
        due(1, 6, 6, Checks.with(head(64), 6, 1));
        due(1, 7, 7, head(64), Checks.number(65537, 4));
        due(1, 8, 14, head(80), plain, Checks.number(1, 4), END);
        due(1, 9, 13, head(64), Checks.bytes(2, 0, 0, 0, 0x30, 1), END);
        due(1, 10, 18, head(68), plain, END, Checks.number(1, 4));
        due(1, 11, 6, head(76, Checks.number(4, 8)), plain, END, sum);
    }

    private static void blocksOfTags() {
        due(2, 1, 0);
        due(2, 1, 4, Checks.bytes(9, 8, 1, 2));
        due(2, 2, 0, Checks.bytes(128, 128, 128, 128, 16));
        due(2, 3, 0, 3, Checks.bytes(4, 12, 1, 2, 3, 4));
        due(2, 4, 3, Checks.bytes(9, 0, 1, 1, 2));
        due(2, 5, 3, Checks.bytes(4, 0, 1, 1, 1));
        due(2, 6, 5, Checks.bytes(4, 8, 1, 2, 3));
    }

    private static byte[] chunk(int kind, byte[]... parts) {
        byte[] all = Checks.join(parts);
        return Checks.join(Checks.bytes(kind), Checks.number(all.length, 3), all);
    }

    private static void streamsOfTags() {
        byte[] sum = Checks.number(Checks.masked(ABC), 4);
        due(3, 2, 18, TAGS, chunk(0, sum, Checks.same(255, 5)));
        due(3, 3, 18, 2, TAGS, chunk(0, sum, Checks.bytes(3, 8), ABC));
        due(3, 3, 20, 2, TAGS, chunk(1, sum, ABC));
        due(3, 4, 21, TAGS, chunk(0, sum, Checks.bytes(9, 0, 1, 1, 2)));
        due(3, 5, 19, TAGS, chunk(0, sum, Checks.bytes(2, 8), ABC));
        due(3, 6, 23, TAGS, chunk(0, sum, Checks.bytes(4, 8), ABC));
        due(3, 7, 12, TAGS, Checks.bytes(1, 9));
        due(3, 8, 0, chunk(1, sum, ABC));
        due(3, 8, 10, TAGS, chunk(255, ABC));
        due(3, 9, 10, TAGS, Checks.bytes(127));
        due(3, 10, 10, TAGS, chunk(1, ABC));
        due(3, 11, 14, TAGS, chunk(1, Checks.with(sum, 0, sum[0] + 1), ABC));
        due(3, 12, 18, TAGS, chunk(0, sum));
    }

    private static byte[] frame(byte[]... blocks) {
        return Checks.join(STATES, Checks.bytes(0, 80), Checks.join(blocks));
    }

    private static byte[] packed(byte[]... parts) {
        byte[] all = Checks.join(parts);
        return Checks.join(States.blockHead(2, true, all.length), all);
    }

    private static void framesOfStates() {
        byte[] plain = Checks.join(States.blockHead(0, true, 3), ABC);
        byte[] sum = Checks.number(Checks.wide(ABC), 4);
        due(4, 1, 2, Checks.bytes(40, 181));
        due(4, 1, 11, Checks.part(frame(plain), 0, 11));
        due(4, 2, 12, frame(plain), ABC, ABC);
        due(4, 3, 4, STATES, Checks.bytes(8));
        due(4, 4, 6, STATES, Checks.bytes(1, 80, 5), plain);
        due(4, 5, 6, frame(Checks.number(7, 3)));
        due(4, 6, 6, frame(Checks.number(8L * 131073, 3)));
        due(4, 7, 6, 2, frame(plain));
        due(4, 8, 12, STATES, Checks.bytes(4, 80), plain, Checks.with(sum, 3, sum[3] + 1));
        due(4, 9, 5, STATES, Checks.bytes(36, 4), plain, sum);
    }

    private static void blocksOfStates() {
        byte[] abc = States.plain(0, ABC);
        byte[] twice = Checks.join(abc, Checks.bytes(1, 84, 3, 2, 0, 6));
        due(4, 7, 9, 2, frame(packed(abc, Checks.bytes(0))));
        due(4, 7, 18, 5, frame(packed(twice)));
        due(4, 10, 13, frame(packed(abc)));
        due(4, 11, 9, frame(packed(Checks.number(131073L << 4 | 13, 3))));
        due(4, 11, 9, frame(packed(States.coded(2, 1, 5, ABC))));
        due(4, 12, 12, frame(packed(States.coded(2, 0, 3, Checks.bytes(128, 0xC0)))));
        due(4, 13, 9, frame(packed(States.coded(3, 0, 3, ABC))));
        due(4, 14, 14, frame(packed(States.coded(2, 0, 3, Checks.bytes(128, 0x10, 0)))));
        due(4, 15, 14, frame(packed(abc, Checks.bytes(0, 0))));
        due(4, 15, 14, frame(packed(Checks.with(twice, 5, 85))));
        due(4, 16, 14, frame(packed(Checks.with(twice, 6, 36))));
        due(4, 17, 18, frame(packed(Checks.with(twice, 9, 0))));
        due(4, 18, 18, STATES, Checks.bytes(0, 80), packed(Checks.with(twice, 7, 5), Checks.bytes(3)));
        due(4, 19, 18, frame(packed(Checks.with(twice, 6, 4))));
        byte[] most = Checks.join(Checks.number(1022 << 4 | 5, 2), Checks.bytes(120, 1, 84, 28, 0, 0), Checks.number(510 | 1 << 9, 2));
        due(4, 20, 17, STATES, Checks.bytes(0, 0), packed(most));
    }

    // Of several faults the first that comes: tokens and tags.
    private static void firstOfAnElement() {
        due(0, 1, 2, 0, Checks.bytes(0xF0, 255));
        due(0, 3, 1, 0, Checks.bytes(0x20, 1));
        due(0, 1, 2, 1, Checks.bytes(0x20, 1));
        due(0, 2, 1, 0, Checks.bytes(0x0F, 0, 0));
        due(0, 1, 3, 0, Checks.bytes(0x0F, 1, 0));
        due(1, 7, 7, 0, head(80), Checks.number(65537, 4));
        due(1, 1, 15, 0, head(80), Checks.bytes(5, 0, 0, 0, 0x10, 1, 0, 0));
        due(1, 8, 16, 0, head(80), Checks.bytes(5, 0, 0, 0, 0x20, 1, 0, 0, 0), END);
        due(2, 2, 0, 0, Checks.same(255, 5));
        due(2, 3, 0, 0, Checks.bytes(9, 1));
        due(2, 1, 3, Checks.bytes(0, 2, 9));
        due(3, 8, 0, 0, Checks.bytes(9));
        due(3, 9, 10, 0, TAGS, Checks.bytes(9));
        due(3, 7, 13, 0, TAGS, Checks.bytes(0, 3, 0));
        due(3, 10, 10, 0, TAGS, chunk(0, ABC), Checks.bytes(9));
    }

    // States: 11, 13, 10, 12, 14 in this order; bytes behind 0 sequences before what is too many.
    private static void firstOfLiterals() {
        byte[] wrong = Checks.bytes(128, 0xC0);
        byte[] more = Checks.number(2 | 3 << 4 | 900 << 14, 3);
        due(4, 10, 14, 0, frame(packed(more, wrong)));
        due(4, 12, 12, 0, frame(packed(States.coded(2, 0, 3, wrong))));
        due(4, 11, 9, 0, frame(packed(Checks.number(3 | 4 | 5 << 4 | 900 << 14, 3), wrong)));
        due(4, 13, 9, 0, frame(packed(Checks.number(3 | 3 << 4 | 900 << 14, 3), wrong)));
        due(4, 14, 14, 0, frame(packed(States.coded(2, 0, 3, Checks.bytes(128, 0x10, 0)))));
        due(4, 10, 13, 0, frame(packed(States.plain(0, ABC))));
        due(4, 15, 14, 0, frame(packed(States.plain(0, ABC), Checks.bytes(0, 9))));
        due(4, 7, 9, 0, frame(packed(States.plain(0, ABC), Checks.bytes(0))));
    }

    // One sequence by tables of one symbol, of a WINDOW of 1024; less is how many bits lack.
    private static byte[] sequence(int literals, int ofLiterals, int distance, int length, int less) {
        int l = States.literalSymbol(ofLiterals);
        int m = States.matchSymbol(length);
        int d = States.highest(distance + 3);
        States.Bits bits = new States.Bits();
        long all = ofLiterals - States.literalBase(l) | (long) (length - States.matchBase(m)) << States.literalBits(l)
            | (long) (distance + 3 - (1 << d)) << States.literalBits(l) + States.matchBits(m);
        int n = States.literalBits(l) + States.matchBits(m) + d;
        // Those that are read last lack, or zeros are below them.
        bits.add(less < 0 ? all << -less : all >> less, n - less);
        return Checks.join(STATES, Checks.bytes(0, 0), packed(Checks.number((long) literals << 4 | 5, 2), Checks.bytes(120, 1, 84,
            l, d, m), bits.add(1, 1).bytes()));
    }

    private static void firstOfASequence() {
        int at = 9 + 3 + 5;
        due(4, 17, at, 1, sequence(2, 3, 100, 2000, 1));
        due(4, 19, at, 1, sequence(2, 3, 100, 2000, 0));
        due(4, 18, at, 1, sequence(2, 2, 100, 2000, 0));
        due(4, 20, at, 1, sequence(2, 2, 1, 2000, 0));
        due(4, 7, at, 1, sequence(2, 2, 1, 1000, 0));
        due(4, 19, at, 1, sequence(2, 3, 1, 1000, 0));
        due(4, 18, at, 1, sequence(2, 2, 13, 1000, 0));
        // Behind the two literals are ten bytes of the DICTIONARY's.
        due(4, 7, at, 1, sequence(2, 2, 12, 1000, 0));
        due(4, 20, at, 1023, sequence(2, 2, 1, 1023, 0));
        due(4, 7, at, 1023, sequence(2, 2, 1, 1022, 0));
    }

    // Bits that are left come before LITERALS that are left, of these MOST OF A BLOCK before what may be.
    private static void firstBehindSequences() {
        int at = 9 + 3 + 5;
        due(4, 17, at, 4, sequence(1022, 1, 1, 3, -1));
        due(4, 20, at, 4, sequence(1022, 1, 1, 3, 0));
        due(4, 7, at, 4, sequence(1021, 1, 1, 3, 0));
        due(4, 17, at, 4, sequence(1021, 1, 1, 3, -2));
        // The sequence itself is too many before bits are left.
        due(4, 7, at, 3, sequence(1021, 1, 1, 3, -1));
    }
}
