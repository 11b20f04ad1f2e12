/** Promises 16, 17 and 18 in FORMAT 5: dictionaries made, learned, used and forgotten. */
public final class DictionaryTest {
    private static final byte[] SOURCE = Checks.text("to be or not to be: that is the question, "
        + "whether 'tis nobler in the mind to suffer the slings and arrows of fortune, or to take arms against a sea");

    public static void main(String[] args) {
        raw();
        made();
        refusedMade();
        formed();
        afresh();
        wrong();
        used();
        Checks.end("DictionaryTest");
    }

    private static void raw() {
        PackHouse x = new PackHouse();
        Checks.due("no row", x.learn(4), -5);
        Checks.due("no row", x.learn(-1), -5);
        Checks.due("no bytes", x.learn(0), 0);
        Checks.load(x, 0, Checks.text("content"));
        Checks.due("content", x.learn(0), 7);
        Checks.due("its bytes", x.about(19), 7);
        Checks.due("its ID", x.about(20), 0);
        x.cut(0, 2);
        Checks.due("as they were", x.about(19), 7);
        Checks.due("forget", x.forget(1), true);
        Checks.due("none", x.about(19), 0);
        Checks.load(x, 0, Checks.bytes(55, 164, 48));
        Checks.due("three bytes of the mark", x.learn(0), 3);
    }

    private static byte[] dictionary(PackHouse x) {
        Checks.load(x, 0, SOURCE);
        Checks.due("made", x.write(1, 0, 5) > SOURCE.length, true);
        return Checks.row(x, 1);
    }

    private static void made() {
        PackHouse x = new PackHouse();
        x.set(9, 0x01020304);
        byte[] d = dictionary(x);
        Checks.due("mark and ID", java.util.Arrays.equals(Checks.part(d, 0, 8),
            Checks.bytes(55, 164, 48, 236, 4, 3, 2, 1)), true);
        int n = d.length - SOURCE.length;
        Checks.due("LATEST", java.util.Arrays.equals(Checks.part(d, n - 12, n),
            Checks.bytes(1, 0, 0, 0, 4, 0, 0, 0, 8, 0, 0, 0)), true);
        Checks.due("content", java.util.Arrays.equals(Checks.part(d, n, d.length), SOURCE), true);
        Checks.due("not above the BOUND", d.length <= x.bound(5, SOURCE.length), true);
        Checks.due("strayed", x.strayed(0) + x.strayed(1), 0);
        Checks.due("kind", x.kind(1), 5);
        Checks.due("no row is read so", x.read(2, 1, 5, 9), -50);
        Checks.due("nor opened", x.open(2, 1, 9), -51);
    }

    private static void refusedMade() {
        PackHouse x = new PackHouse();
        x.set(1, 3);
        Checks.load(x, 0, Checks.text("ababab7"));
        Checks.due("less than 8 bytes", x.write(1, 0, 5), -1);
        Checks.load(x, 0, Checks.text("abababab"));
        Checks.due("8 bytes", x.write(1, 0, 5) > 0, true);
        Checks.load(x, 0, Checks.text("abcdefgh"));
        Checks.due("no sequences", x.write(1, 0, 5), -1);
        Checks.load(x, 0, Checks.same(97, 50));
        Checks.due("literals that are all the same", x.write(1, 0, 5), -1);
        byte[] all = new byte[256];
        for (int i = 0; i < 256; i++) {
            all[i] = (byte) i;
        }
        Checks.load(x, 0, Checks.join(all, Checks.bytes(0, 1, 2, 3, 4)));
        Checks.due("codes that cannot be described", x.write(1, 0, 5), -1);
        Checks.due("the row stays", x.size(1) > 0, true);
        x.cut(0, 128);
        x.join(0, 0, 0, 9);
        Checks.due("codes of 128 symbols that can be", x.write(1, 0, 5) > 0, true);
        Checks.load(x, 0, Checks.same(97, 16384));
        x.give(0, 1, 0);
        Checks.due("16385 bytes", x.write(1, 0, 5), -1);
    }

    private static void formed() {
        PackHouse x = new PackHouse();
        x.set(9, -5);
        byte[] d = dictionary(x);
        Checks.load(x, 1, d);
        Checks.due("learn", x.learn(1), SOURCE.length);
        Checks.due("bytes", x.about(19), SOURCE.length);
        Checks.due("ID", x.about(20), -5);
        x.forget(1);
        Checks.due("no bytes", x.about(19), 0);
        Checks.due("no ID", x.about(20), 0);
    }

    // What was there before leaves nothing behind.
    private static void afresh() {
        PackHouse x = new PackHouse();
        byte[] d = dictionary(x);
        int n = d.length - SOURCE.length;
        // LATEST 7, 9, 11; two sequences by them.
        byte[] other = Checks.with(Checks.with(Checks.with(d, n - 12, 7), n - 8, 9), n - 4, 11);
        Checks.load(x, 2, other);
        Checks.due("learn", x.learn(2), SOURCE.length);
        byte[] first = Checks.bytes(40, 181, 47, 253, 0, 80, 101, 0, 0, 40, 118, 119, 120, 121, 122, 1, 84, 5, 0, 0, 1);
        Checks.dueRead("LATEST of the dictionary", x, 4, first, 99, Checks.text("vwxyzeav"));
        x.forget(1);
        Checks.dueRead("LATEST of none", x, 4, first, 99, Checks.text("vwxyzzzz"));
        Checks.load(x, 2, other);
        x.learn(2);
        Checks.load(x, 2, SOURCE);
        x.learn(2);
        Checks.dueRead("LATEST of one that is content alone", x, 4, first, 99, Checks.text("vwxyzzzz"));
        Checks.load(x, 0, SOURCE);
        x.write(1, 0, 4);
        x.write(1, 0, 5);
        Checks.dueRow("made behind other calls", x, 1, d);
    }

    private static void dueLearn(String what, PackHouse x, byte[] row, int want) {
        Checks.load(x, 2, row);
        Checks.due(what, x.learn(2), want);
        Checks.due(what + ": it stays", x.about(20), 77);
    }

    private static void wrong() {
        PackHouse x = new PackHouse();
        x.set(9, 77);
        byte[] d = dictionary(x);
        Checks.load(x, 1, d);
        x.learn(1);
        byte[] mark = Checks.part(d, 0, 4);
        dueLearn("the mark alone", x, mark, -1);
        dueLearn("an ID that is cut", x, Checks.part(d, 0, 7), -1);
        dueLearn("no DESCRIPTION", x, Checks.part(d, 0, 8), -2);
        dueLearn("a DESCRIPTION that is cut", x, Checks.part(d, 0, 10), -2);
        int n = d.length - SOURCE.length;
        dueLearn("a share that is cut", x, Checks.part(d, 0, n - 13), -3);
        dueLearn("no distances", x, Checks.part(d, 0, n - 12), -1);
        dueLearn("distances that are cut", x, Checks.part(d, 0, n - 1), -1);
        dueLearn("distances above the content", x, Checks.part(d, 0, n), -4);
        dueLearn("the third above the content", x, Checks.part(d, 0, n + 7), -4);
        dueLearn("a distance 0", x, Checks.with(d, n - 12, 0), -4);
        dueLearn("a distance without a sign", x, Checks.with(d, n - 1, 128), -4);
        dueLearn("a weight 12", x, Checks.join(Checks.part(d, 0, 8), Checks.bytes(128, 0xC0)), -2);
        byte[] two = Checks.join(Checks.part(d, 0, 8), Checks.bytes(128, 0x10));
        dueLearn("no share", x, two, -3);
        dueLearn("a share of order 9 for distances", x, Checks.join(two, Checks.bytes(4, 0, 0, 0)), -3);
        Checks.load(x, 2, Checks.part(d, 0, n + 8));
        Checks.due("just enough content", x.learn(2), 8);
    }

    // Letters that the dictionary's CODES have, by turns that it has not, and at last a byte without a code.
    private static void withoutCode(PackHouse x) {
        byte[] row = Checks.text("oeoetoteanasnioitrtserteonaotsoehriasneithoraetnhsio");
        Checks.load(x, 0, row);
        x.write(2, 0, 4);
        Checks.due("CODES as they were", x.about(8), 1);
        for (int v : new int[] {1, 200, 255}) {
            x.cut(0, row.length);
            x.give(0, 1, (long) v << 56);
            x.write(2, 0, 4);
            Checks.due("a byte without a code", x.about(8), 0);
            Checks.due("strayed", x.strayed(0), 0);
        }
    }

    private static void used() {
        PackHouse x = new PackHouse();
        x.set(9, 300);
        x.set(7, 8);
        dictionary(x);
        x.learn(1);
        byte[] row = Checks.text("whether to be or not to be is the question of the slings and arrows");
        Checks.load(x, 0, row);
        int with = x.write(1, 0, 4);
        Checks.due("an ID in two bytes", x.byteAt(1, 4) + 256 * x.byteAt(1, 6) + 65536 * x.byteAt(1, 7),
            2 + 256 * 44 + 65536);
        Checks.due("read", x.read(2, 1, 4, 65536), row.length);
        Checks.due("differ", x.differ(0, 2), -1);
        withoutCode(x);
        Checks.load(x, 0, row);
        x.write(1, 0, 4);
        Checks.load(x, 3, SOURCE);
        Checks.due("the content alone", x.learn(3), SOURCE.length);
        Checks.due("another ID", x.read(2, 1, 4, 65536), -4);
        Checks.due("PLACE of the ID", x.about(0), 6);
        int alone = x.write(1, 0, 4);
        Checks.due("read with the content alone", x.read(2, 1, 4, 65536), row.length);
        x.forget(1);
        Checks.due("read without it", x.read(2, 1, 4, 65536), -18);
        int without = x.write(1, 0, 4);
        Checks.due("each helps", with < without && alone < without, true);
        Checks.due("strayed", x.strayed(0), 0);
    }
}
