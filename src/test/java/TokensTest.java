/** Promises 15, 17, 18 and 19 in FORMATS 0 and 1: blocks and frames of tokens, behind HISTORY. */
public final class TokensTest {
    private static final byte[] MAGIC = Checks.bytes(4, 34, 77, 24);

    public static void main(String[] args) {
        writtenBlocks();
        readBlocks();
        blockFaults();
        blockHistory();
        writtenFrames();
        readFrames();
        headFaults();
        cutFrames();
        blockFaultsOfFrames();
        contentFaults();
        frameHistory();
        Checks.end("TokensTest");
    }

    private static void writtenBlocks() {
        PackHouse x = new PackHouse();
        Checks.dueWritten("no bytes", x, 0, new byte[0], Checks.bytes(0));
        Checks.dueWritten("12 alike: no match may begin at 1", x, 0, Checks.same(97, 12),
            Checks.join(Checks.bytes(0xC0), Checks.same(97, 12)));
        Checks.dueWritten("13 alike", x, 0, Checks.same(97, 13),
            Checks.join(Checks.bytes(0x13, 97, 1, 0, 0x50), Checks.same(97, 5)));
        Checks.dueWritten("15 literals take a byte 0", x, 0, Checks.text("abcdefghijklmno"),
            Checks.join(Checks.bytes(0xF0, 0), Checks.text("abcdefghijklmno")));
        byte[] many = new byte[270];
        for (int i = 0; i < 270; i++) {
            many[i] = (byte) (i < 256 ? i : 3 * i);
        }
        Checks.dueWritten("270 literals take 255 and 0", x, 0, many, Checks.join(Checks.bytes(0xF0, 255, 0), many));
        Checks.dueWritten("a match of 19", x, 0, Checks.same(5, 25),
            Checks.join(Checks.bytes(0x1F, 5, 1, 0, 0, 0x50), Checks.same(5, 5)));
        Checks.dueWritten("a match of 274", x, 0, Checks.same(5, 280),
            Checks.join(Checks.bytes(0x1F, 5, 1, 0, 255, 0, 0x50), Checks.same(5, 5)));
    }

    private static void readBlocks() {
        PackHouse x = new PackHouse();
        Checks.dueRead("no bytes", x, 0, Checks.bytes(0), 0, new byte[0]);
        Checks.dueRead("the last one's b counts for nothing", x, 0, Checks.bytes(0x2F, 7, 8), 2, Checks.bytes(7, 8));
        Checks.dueRead("an overlapping copy", x, 0, Checks.bytes(0x21, 1, 2, 2, 0, 0x10, 9), 65536,
            Checks.bytes(1, 2, 1, 2, 1, 2, 1, 9));
        Checks.dueRead("a block that ends with no literals", x, 0, Checks.bytes(0x10, 6, 1, 0, 0), 5,
            Checks.same(6, 5));
        Checks.dueRead("bytes that are added", x, 0, Checks.bytes(0x1F, 6, 1, 0, 255, 1, 0), 276,
            Checks.same(6, 276));
    }

    private static void blockFaults() {
        PackHouse x = new PackHouse();
        Checks.dueFault("no TOKEN at all", x, 0, new byte[0], 65536, 1, 0);
        Checks.dueFault("a byte to be added lacks", x, 0, Checks.bytes(0xF0, 255), 65536, 1, 2);
        Checks.dueFault("a LITERAL lacks", x, 0, Checks.bytes(0x30, 1, 2), 65536, 1, 3);
        Checks.dueFault("a byte of a DISTANCE lacks", x, 0, Checks.bytes(0x10, 1, 1), 65536, 1, 3);
        Checks.dueFault("a byte to be added to b lacks", x, 0, Checks.bytes(0x1F, 1, 1, 0), 65536, 1, 4);
        Checks.dueFault("a TOKEN lacks behind a copy", x, 0, Checks.bytes(0x10, 1, 1, 0), 65536, 1, 4);
        Checks.dueFault("DISTANCE 0", x, 0, Checks.bytes(0x10, 1, 0, 0, 0), 65536, 2, 2);
        Checks.dueFault("DISTANCE too far", x, 0, Checks.bytes(0x10, 1, 2, 0, 0), 65536, 2, 2);
        Checks.dueFault("DISTANCE before bytes that lack", x, 0, Checks.bytes(0x1F, 1, 2, 0), 65536, 2, 2);
        Checks.dueFault("too many LITERALS", x, 0, Checks.bytes(0x30, 1, 2, 3), 2, 3, 3);
        Checks.dueFault("no LITERAL may be", x, 0, Checks.bytes(0x30, 1, 2, 3), 0, 3, 1);
        Checks.dueFault("the LITERAL too many is not there", x, 0, Checks.bytes(0x30, 1, 2), 2, 1, 3);
        Checks.dueFault("a copy too long", x, 0, Checks.bytes(0x10, 1, 1, 0, 0), 4, 3, 2);
        Checks.dueFault("a copy too long behind bytes that lack", x, 0, Checks.bytes(0x1F, 1, 1, 0), 4, 1, 4);
        Checks.due("no such format", x.read(2, 1, -1, 5), -50);
        Checks.due("no such format", x.read(2, 1, 5, 5), -50);
        Checks.due("no such row", x.read(4, 1, 0, 5), -50);
        Checks.due("no such row", x.read(2, -1, 0, 5), -50);
        Checks.due("most below 0", x.read(2, 1, 0, -1), -50);
        Checks.due("most above", x.read(2, 1, 0, 65537), -50);
        Checks.due("PLACE stays when refused", x.about(0), 4);
    }

    private static void blockHistory() {
        PackHouse x = new PackHouse();
        Checks.load(x, 0, Checks.text("the history"));
        Checks.due("history of no row", x.history(4), false);
        Checks.due("history of no row", x.history(-1), false);
        Checks.due("history", x.history(0), true);
        Checks.due("bytes of HISTORY", x.about(18), 11);
        x.cut(0, 3);
        Checks.due("HISTORY stays as it was", x.about(18), 11);
        Checks.dueRead("a copy of HISTORY that runs on", x, 0, Checks.bytes(0x04, 3, 0, 0x10, 33), 9,
            Checks.text("oryoryor!"));
        Checks.dueRead("HISTORY's first byte", x, 0, Checks.bytes(0x10, 33, 12, 0, 0), 9, Checks.text("!the "));
        Checks.dueFault("behind HISTORY's first byte", x, 0, Checks.bytes(0x10, 33, 13, 0, 0), 9, 2, 2);
        Checks.dueWritten("written behind HISTORY", x, 0, Checks.text("the history of it"),
            Checks.join(Checks.bytes(0x07, 11, 0, 0x60), Checks.text(" of it")));
        Checks.due("forget no such", x.forget(2), false);
        Checks.due("forget no such", x.forget(-1), false);
        Checks.due("forget", x.forget(0), true);
        Checks.due("no bytes of HISTORY", x.about(18), 0);
        Checks.dueFault("no HISTORY", x, 0, Checks.bytes(0x04, 3, 0, 0x10, 33), 9, 2, 1);
        Checks.load(x, 0, Checks.same(1, 8192));
        x.history(0);
        Checks.due("16384 bytes with HISTORY", x.write(1, 0, 0) > 0 && x.write(1, 0, 1) > 0, true);
        x.give(0, 1, 0);
        Checks.due("16385 bytes with HISTORY", x.write(1, 0, 0), -1);
        Checks.due("16385 bytes with HISTORY", x.write(1, 0, 1), -1);
        Checks.due("HISTORY is not ahead of tags", x.write(1, 0, 2) > 0, true);
    }

    private static byte[] head(int flags, int k, byte[]... more) {
        byte[] told = Checks.join(Checks.bytes(flags, 16 * k), Checks.join(more));
        return Checks.join(MAGIC, told, Checks.bytes(Checks.narrow(told, 0) >>> 8));
    }

    private static byte[] block(int told, byte[] bytes) {
        return Checks.join(Checks.number(told, 4), bytes);
    }

    private static byte[] summed(byte[] bytes) {
        return Checks.join(bytes, Checks.number(Checks.narrow(bytes, 0), 4));
    }

    private static void writtenFrames() {
        PackHouse x = new PackHouse();
        byte[] end = Checks.number(0, 4);
        byte[] noSum = Checks.number(Checks.narrow(new byte[0], 0), 4);
        Checks.dueWritten("no bytes", x, 1, new byte[0], Checks.join(head(100, 4), end, noSum));
        byte[] row = Checks.join(Checks.same(97, 30), Checks.text("0123456789"));
        byte[] sum = Checks.number(Checks.narrow(row, 0), 4);
        x.set(2, 30);
        byte[] packed = Checks.join(Checks.bytes(0x1F, 97, 1, 0, 5, 0x50), Checks.same(97, 5));
        byte[] plain = Checks.text("0123456789");
        Checks.dueWritten("two blocks", x, 1, row,
            Checks.join(head(100, 4), block(packed.length, packed), block(1 << 31 | 10, plain), end, sum));
        x.set(3, 64 + 16 + 8 + 1);
        x.set(4, 7);
        x.set(5, -2);
        Checks.dueWritten("all flags but the content's sum", x, 1, row, Checks.join(
            head(89, 7, Checks.number(40, 8), Checks.number(-2, 4)), block(packed.length, summed(packed)),
            block(1 << 31 | 10, summed(plain)), end));
        PackHouse y = new PackHouse();
        byte[] twice = Checks.join(Checks.text("what is said twice"), Checks.text("what is said twice"));
        y.set(2, 18);
        y.set(3, 64 + 32);
        Checks.load(y, 0, twice);
        Checks.due("ALONE", y.write(1, 0, 1), 7 + 22 + 22 + 4);
        y.set(3, 64);
        Checks.due("not ALONE", y.write(1, 0, 1), 7 + 22 + 4 + 9 + 4);
        y.set(2, 1);
        Checks.load(y, 0, Checks.same(3, 16384));
        Checks.due("more than a row would come", y.write(1, 0, 1), -1);
        Checks.due("the row stays", y.size(1), 46);
        Checks.due("no such row", y.write(4, 0, 1), -1);
        Checks.due("no such row", y.write(1, -1, 1), -1);
        Checks.due("no such format", y.write(1, 0, -1), -1);
    }

    private static void readFrames() {
        PackHouse x = new PackHouse();
        byte[] end = Checks.number(0, 4);
        byte[] one = Checks.join(head(64, 4), block(1 << 31 | 3, Checks.text("abc")), end);
        byte[] spare = Checks.join(Checks.bytes(95, 42, 77, 24), Checks.number(2, 4), Checks.bytes(1, 2));
        Checks.dueRead("no bytes", x, 1, new byte[0], 0, new byte[0]);
        Checks.dueRead("one", x, 1, one, 3, Checks.text("abc"));
        Checks.dueRead("frames and spare bytes", x, 1, Checks.join(spare, one, spare, one, one), 9,
            Checks.text("abcabcabc"));
        Checks.dueRead("spare bytes of none at the end", x, 1, Checks.join(one, Checks.part(spare, 0, 4), new byte[4]), 9,
            Checks.text("abc"));
        Checks.dueRead("a block for itself of no bytes", x, 1, Checks.join(head(64, 4), block(1 << 31, new byte[0]),
            end), 0, new byte[0]);
        byte[] copy = Checks.bytes(0x00, 3, 0, 0x10, 33);
        byte[] abc = block(1 << 31 | 3, Checks.text("abc"));
        Checks.dueRead("the content so far", x, 1, Checks.join(head(64, 4), abc, block(5, copy), end), 99,
            Checks.text("abcabca!"));
        int at = 7 + 7 + 4 + 1;
        Checks.dueFault("but not when ALONE", x, 1, Checks.join(head(96, 4), abc, block(5, copy), end), 99, 2, at);
        Checks.dueFault("nor of the frame before", x, 1, Checks.join(one, head(64, 4), block(5, copy), end), 99, 2,
            one.length + 7 + 5);
    }

    private static void headFaults() {
        PackHouse x = new PackHouse();
        byte[] end = Checks.number(0, 4);
        byte[] one = Checks.join(head(64, 4), end);
        Checks.dueFault("three bytes", x, 1, Checks.bytes(1, 2, 3), 9, 1, 3);
        Checks.dueFault("no frame", x, 1, Checks.bytes(4, 34, 77, 25), 9, 4, 0);
        Checks.dueFault("no frame behind one", x, 1, Checks.join(one, Checks.bytes(79, 42, 77, 24)), 9, 4, one.length);
        for (int flags : new int[] {0, 66, 128, 192, 63}) {
            Checks.dueFault("FLAGS " + flags, x, 1, Checks.join(head(flags, 4), end), 9, 5, 4);
        }
        for (int told : new int[] {48, 128, 65, 72, 192}) {
            Checks.dueFault("behind FLAGS " + told, x, 1, Checks.with(one, 5, told), 9, 5, 5);
        }
        Checks.dueFault("both are wrong", x, 1, Checks.with(Checks.with(one, 4, 0), 5, 0), 9, 5, 4);
        Checks.dueFault("FLAGS at a cut", x, 1, Checks.join(MAGIC, Checks.bytes(2)), 9, 5, 4);
        Checks.dueFault("the byte behind FLAGS at a cut", x, 1, Checks.join(MAGIC, Checks.bytes(64, 1)), 9, 5, 5);
        Checks.dueFault("the sum's byte", x, 1, Checks.with(one, 6, one[6] + 1), 9, 6, 6);
        byte[] sized = Checks.join(head(73, 4, Checks.number(0, 8), Checks.number(7, 4)), end);
        Checks.dueFault("the sum's byte behind SIZE and KEY", x, 1, Checks.with(sized, 18, sized[18] + 1), 9, 6, 18);
    }

    private static void cutFrames() {
        byte[] content = Checks.text("abcdefgh");
        byte[] frame = Checks.join(head(64 + 16 + 8 + 4 + 1, 5, Checks.number(8, 8), Checks.number(9, 4)),
            block(1 << 31 | 8, summed(content)), Checks.number(0, 4), Checks.number(Checks.narrow(content, 0), 4));
        byte[] spare = Checks.join(Checks.bytes(80, 42, 77, 24), Checks.number(3, 4), Checks.bytes(1, 2, 3));
        byte[] all = Checks.join(spare, frame);
        for (int n = 0; n <= all.length; n++) {
            PackHouse x = new PackHouse();
            if (n == 0 || n == spare.length) {
                Checks.dueRead("cut at " + n, x, 1, Checks.part(all, 0, n), 99, new byte[0]);
            } else if (n == all.length) {
                Checks.dueRead("not cut", x, 1, all, 8, content);
            } else {
                Checks.dueFault("cut at " + n, x, 1, Checks.part(all, 0, n), 99, 1, n);
            }
        }
        PackHouse x = new PackHouse();
        byte[] wrong = Checks.with(frame, 23, 88);
        Checks.dueFault("a block whose sum is cut is not looked at", x, 1, Checks.part(wrong, 0, 34), 99, 1, 34);
        Checks.dueFault("one that is there is", x, 1, Checks.part(wrong, 0, 35), 99, 8, 31);
        Checks.dueFault("spare bytes that are too many", x, 1, Checks.with(spare, 7, 255), 99, 1, spare.length);
    }

    private static void blockFaultsOfFrames() {
        PackHouse x = new PackHouse();
        byte[] end = Checks.number(0, 4);
        Checks.dueFault("m too great, before the cut", x, 1, Checks.join(head(64, 4), Checks.number(65537, 4)), 9, 7, 7);
        Checks.dueFault("m too great", x, 1, Checks.join(head(64, 4), Checks.number(1L << 31 | 65537, 4)), 9, 7, 7);
        Checks.dueFault("m not too great", x, 1, Checks.join(head(64, 5), Checks.number(65537, 4)), 9, 1, 11);
        Checks.dueFault("m 0 without 2^31 is the end", x, 1, Checks.join(head(64, 4), end, end), 9, 4, 11);
        Checks.dueFault("a block's end", x, 1, Checks.join(head(64, 4), block(2, Checks.bytes(0x30, 1)), end), 9, 9, 13);
        byte[] three = Checks.join(head(64, 4), block(4, Checks.bytes(0x30, 1, 2, 3)), end);
        Checks.dueFault("too many LITERALS", x, 1, three, 2, 3, 14);
        byte[] plain = Checks.join(head(64, 4), block(1 << 31 | 3, Checks.bytes(1, 2, 3)), end);
        Checks.dueFault("too many for itself", x, 1, plain, 2, 3, 13);
        Checks.dueFault("too many in all", x, 1, Checks.join(plain, plain), 5, 3, plain.length + 13);
        byte[] bad = Checks.bytes(0x10, 1, 0, 0, 0);
        Checks.dueFault("a DISTANCE", x, 1, Checks.join(head(64, 4), block(5, bad), end), 9, 2, 13);
        Checks.dueFault("a block's sum comes first", x, 1, Checks.join(head(80, 4), block(5, bad), end, end), 9, 8, 16);
        Checks.dueFault("then the DISTANCE", x, 1, Checks.join(head(80, 4), block(5, summed(bad)), end), 9, 2, 13);
    }

    private static void contentFaults() {
        PackHouse x = new PackHouse();
        byte[] abc = block(1 << 31 | 3, Checks.text("abc"));
        byte[] end = Checks.number(0, 4);
        byte[] sum = Checks.number(Checks.narrow(Checks.text("abc"), 0), 4);
        Checks.dueRead("both right", x, 1, Checks.join(head(76, 4, Checks.number(3, 8)), abc, end, sum), 3,
            Checks.text("abc"));
        Checks.dueFault("the content's sum", x, 1, Checks.join(head(68, 4), abc, end, end), 9, 10, 18);
        Checks.dueFault("the sum before SIZE", x, 1, Checks.join(head(76, 4, Checks.number(4, 8)), abc, end, end), 9,
            10, 26);
        Checks.dueFault("SIZE", x, 1, Checks.join(head(76, 4, Checks.number(4, 8)), abc, end, sum), 9, 11, 6);
        Checks.dueFault("SIZE, far too great", x, 1, Checks.join(head(72, 4, Checks.number(3L << 40 | 3, 8)), abc, end),
            9, 11, 6);
    }

    private static void frameHistory() {
        PackHouse x = new PackHouse();
        byte[] past = Checks.text("a history that is said once ");
        Checks.load(x, 0, past);
        x.history(0);
        byte[] row = Checks.join(past, past, past);
        x.set(2, 28);
        for (int flags : new int[] {64, 96}) {
            x.set(3, flags);
            Checks.load(x, 0, row);
            int n = x.write(1, 0, 1);
            Checks.due("behind HISTORY, flags " + flags, n, 7 + 3 * (4 + 10) + 4);
            Checks.due("read", x.read(2, 1, 1, 84), 84);
            Checks.due("differ", x.differ(0, 2), -1);
            Checks.due("strayed", x.strayed(0), 0);
        }
        x.forget(0);
        Checks.due("without HISTORY", x.read(2, 1, 1, 84), -2);
    }
}
