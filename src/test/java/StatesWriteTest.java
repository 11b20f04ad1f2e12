import java.util.Random;

/** Promises 18, 23 and 24 in FORMAT 4: frames of states that are written, and what about() tells of them. */
public final class StatesWriteTest {
    private static final byte[] MAGIC = Checks.bytes(40, 181, 47, 253);

    public static void main(String[] args) {
        heads();
        kinds();
        sequences();
        latest();
        literals();
        fourStreams();
        manyPlain();
        manySequences();
        oneLiteral();
        undescribed();
        modes();
        refusals();
        windows();
        Checks.end("StatesWriteTest");
    }

    private static void dueWritten(String what, PackHouse x, byte[] row, byte[] want) {
        Checks.dueWritten(what, x, 4, row, want);
    }

    private static void dueAbout(String what, PackHouse x, int... counts) {
        for (int i = 0; i < counts.length; i++) {
            Checks.due(what + ": about " + (i + 1), x.about(i + 1), counts[i]);
        }
    }

    private static PackHouse flagged(int flags) {
        PackHouse x = new PackHouse();
        x.set(7, flags);
        return x;
    }

    private static void heads() {
        byte[] none = Checks.bytes(1, 0, 0);
        byte[] sum = Checks.number(Checks.wide(new byte[0]), 4);
        dueWritten("nothing told", flagged(0), new byte[0], Checks.join(MAGIC, Checks.bytes(0, 48), none));
        dueWritten("SUMMED", flagged(1), new byte[0], Checks.join(MAGIC, Checks.bytes(4, 48), none, sum));
        dueWritten("SIZE", flagged(2), new byte[0], Checks.join(MAGIC, Checks.bytes(128, 48, 0, 0, 0, 0), none));
        dueWritten("SINGLE", flagged(4), new byte[0], Checks.join(MAGIC, Checks.bytes(32, 0), none));
        PackHouse x = flagged(2);
        x.set(8, 11);
        byte[] same = Checks.bytes(97);
        dueWritten("255", x, Checks.same(97, 255), Checks.join(MAGIC, Checks.bytes(128, 88, 255, 0, 0, 0),
            Checks.number(8 * 255 + 3, 3), same));
        dueWritten("256", x, Checks.same(97, 256), Checks.join(MAGIC, Checks.bytes(64, 88, 0, 0),
            Checks.number(8 * 256 + 3, 3), same));
        PackHouse y = flagged(4);
        dueWritten("255 when SINGLE", y, Checks.same(97, 255), Checks.join(MAGIC, Checks.bytes(32, 255),
            Checks.number(8 * 255 + 3, 3), same));
        dueWritten("256 when SINGLE", y, Checks.same(97, 256), Checks.join(MAGIC, Checks.bytes(96, 0, 0),
            Checks.number(8 * 256 + 3, 3), same));
        dueWritten("an ID without a dictionary", flagged(8), new byte[0], Checks.join(MAGIC, Checks.bytes(0, 48), none));
    }

    private static void kinds() {
        PackHouse x = flagged(0);
        byte[] head = Checks.join(MAGIC, Checks.bytes(0, 48));
        dueWritten("one byte", x, Checks.bytes(5), Checks.join(head, Checks.bytes(11, 0, 0, 5)));
        dueAbout("one byte", x, 0, 1, 0, 0, 0, 0, 0, 0, 0, 0, 0, 0);
        dueWritten("two bytes", x, Checks.bytes(5, 6), Checks.join(head, Checks.bytes(17, 0, 0, 5, 6)));
        dueAbout("two bytes", x, 1, 0, 0, 0);
        x.set(2, 3);
        dueWritten("rows of three", x, Checks.bytes(5, 5, 5, 6, 7, 8, 9), Checks.join(head, Checks.bytes(26, 0, 0, 5),
            Checks.bytes(24, 0, 0, 6, 7, 8), Checks.bytes(11, 0, 0, 9)));
        dueAbout("rows of three", x, 1, 2, 0, 0);
    }

    // abcdefgh twice and more: literals plain, one sequence, tables of one symbol or the known ones.
    private static void sequences() {
        PackHouse x = flagged(0);
        byte[] head = Checks.join(MAGIC, Checks.bytes(0, 48));
        byte[] row = Checks.text("abcdefghabcdefghabcdefgh");
        // Cost of the known ones is 6, 5, 6 bits: less than 8. Lowest places: 8 in literal lengths,
        // 3 in distances (v 11), 13 in match lengths.
        Checks.load(x, 0, row);
        int n = x.write(1, 0, 4);
        byte[] packed = Checks.row(x, 1);
        Checks.due("block", packed[6] & 255, 8 * (n - 9) + 5);
        Checks.due("LITERALS, MODES", java.util.Arrays.equals(Checks.part(packed, 9, 20),
            Checks.join(Checks.bytes(64), Checks.text("abcdefgh"), Checks.bytes(1, 0))), true);
        // 3 bits of the distance, 6 + 5 + 6 of the states, and the END: 21 bits.
        Checks.due("bytes in all", n, 9 + 9 + 2 + 3);
        dueAbout("one sequence", x, 0, 0, 1, 1, 1, 0, 0, 0, 3, 0, 0, 0);
    }

    private static void latest() {
        // The same distance twice is told by the first of LATEST, behind a literal: fewer bits than the distance.
        PackHouse x = flagged(0);
        byte[] said = Checks.text("abcdefghijklmnopqrstuvwxyz0123456789");
        byte[] changed = Checks.with(said, 18, '!');
        Checks.load(x, 0, Checks.join(said, changed));
        // Additional bits 3 and 5, states 6 + 5 + 6 at last and 5 + 5 + 6 before, and the END: 42 bits.
        Checks.due("one literal between", x.write(1, 0, 4), 9 + 2 + 37 + 2 + 6);
        dueAbout("one literal between", x, 0, 0, 1, 2);
    }

    private static void literals() {
        PackHouse x = flagged(0);
        // Of four bytes by turns of random kind no match of 8 comes early; LEAST 8 keeps them literals.
        x.set(1, 8);
        Random random = new Random(2);
        byte[] row = new byte[900];
        for (int i = 0; i < row.length; i++) {
            row[i] = (byte) (random.nextInt(16) == 0 ? random.nextInt(40) : random.nextInt(2));
        }
        Checks.load(x, 0, row);
        Checks.due("coded", x.write(1, 0, 4) < 700, true);
        Checks.due("LITERALS with k 2", x.about(7), 1);
        x.set(2, 300);
        Checks.due("in three rows", x.write(1, 0, 4) > 0, true);
        Checks.due("LITERALS with k 2 or 3", x.about(7) + x.about(8), 3);
        Checks.due("the first has k 2", x.about(7) >= 1, true);
        Checks.due("strayed", x.strayed(0) + x.strayed(1), 0);
        // One literal, again and again: k 1 has two bytes.
        PackHouse y = flagged(0);
        y.set(1, 4);
        byte[] z = Checks.join(Checks.text("zzz"), Checks.text("z0123z"), Checks.text("z0123z"));
        Checks.load(y, 0, z);
        y.write(1, 0, 4);
        Checks.due("k 0 for few", y.about(1) + y.about(5), 1);
        wayOfOneByte();
    }

    // Matches of the row ahead leave the bytes between them as literals, which are all the same.
    private static void wayOfOneByte() {
        Random random = new Random(6);
        byte[] first = new byte[600];
        random.nextBytes(first);
        byte[] second = Checks.join(Checks.part(first, 0, 100), Checks.same(7, 1), Checks.part(first, 150, 250),
            Checks.same(7, 1), Checks.part(first, 300, 400), Checks.same(7, 1), Checks.part(first, 450, 597));
        byte[] all = Checks.join(first, second);
        PackHouse x = flagged(0);
        x.set(2, 600);
        Checks.load(x, 0, Checks.part(all, 0, 600 + second.length));
        Checks.due("written", x.write(1, 0, 4) > 0, true);
        Checks.due("LITERALS with k 1", x.about(6), 1);
        Checks.due("sequences", x.about(4), 4);
        Checks.due("strayed", x.strayed(0), 0);
    }

    // Each seven of these 16,384 bytes, of four kinds, stand there once: all are literals when LEAST is 8.
    private static byte[] unlike() {
        byte[] b = new byte[16384];
        boolean[] seen = new boolean[16384];
        int last = 0;
        seen[0] = true;
        for (int i = 7; i < b.length; i++) {
            int v = 3;
            while (v > 0 && seen[(last << 2 | v) & 16383]) {
                v--;
            }
            b[i] = (byte) v;
            last = (last << 2 | v) & 16383;
            seen[last] = true;
        }
        return b;
    }

    // A frame that stands for them: a row of so many bytes cannot be given in 512 calls.
    private static byte[] frameOf(byte[] row) {
        int c = row.length / 4;
        byte[] all = Checks.join(Checks.bytes(130, 0x11, 0x10), Checks.number(c / 4 + 1, 2), Checks.number(c / 4 + 1, 2),
            Checks.number(c / 4 + 1, 2));
        for (int i = 0; i < 4; i++) {
            byte[] stream = new byte[c / 4 + 1];
            for (int j = 0; j < c; j++) {
                stream[j / 4] |= (byte) (row[i * c + c - 1 - j] << 2 * (j % 4));
            }
            stream[c / 4] = 1;
            all = Checks.join(all, stream);
        }
        long head = 2 | 3 << 2 | (long) row.length << 4 | (long) all.length << 22;
        return Checks.join(MAGIC, Checks.bytes(0, 80), Checks.number(8L * (all.length + 6) + 5, 3),
            Checks.number(head, 5), all, Checks.bytes(0));
    }

    // Where so many bytes begin of which each kind is about a quarter: their codes have two bits.
    private static int evenPart(byte[] row, int n) {
        for (int from = 0; from + n < row.length; from++) {
            int[] counts = new int[4];
            for (int i = from; i < from + n; i++) {
                counts[row[i]]++;
            }
            java.util.Arrays.sort(counts);
            if (counts[0] + counts[1] >= counts[3]) {
                return from;
            }
        }
        return 0;
    }

    private static void fourStreams() {
        byte[] row = unlike();
        PackHouse x = flagged(0);
        Checks.load(x, 1, frameOf(row));
        Checks.due("read", x.read(3, 1, 4, 65536), 16384);
        Checks.dueRow("read", x, 3, row);
        x.set(1, 8);
        // Two bits each: a description of 3 bytes, 6 for the three numbers, the END in a byte of its own or not.
        int[][] due = {{16384, 5 + 9 + 4 * 1025}, {16383, 4 + 9 + 3 * 1025 + 1024}, {1024, 4 + 9 + 4 * 65},
            {1025, 4 + 9 + 3 * 65 + 64}, {1023, 3 + 3 + 256}};
        for (int[] way : due) {
            x.cut(0, 0);
            int from = evenPart(row, way[0]);
            x.join(0, 3, from, from + way[0]);
            Checks.due(way[0] + " literals", x.write(1, 0, 4), 9 + way[1] + 1);
            Checks.due("with k 2", x.about(7), 1);
            Checks.due("no sequences", x.about(4), 0);
            Checks.due("strayed", x.strayed(0) + x.strayed(1), 0);
        }
        // The same codes are cheaper in the second row.
        x.cut(0, 0);
        x.join(0, 3, 0, 16384);
        x.set(2, 8192);
        Checks.due("two rows", x.write(1, 0, 4), 6 + 2 * (3 + 4 + 6 + 4 * 513 + 1) + 3);
        Checks.due("k 2, then k 3", 10 * x.about(7) + x.about(8), 11);
    }

    // More than 4095 literals that no code makes shorter: a head of three bytes.
    private static void manyPlain() {
        byte[] noise = new byte[4500];
        new Random(15).nextBytes(noise);
        PackHouse x = flagged(0);
        Checks.load(x, 0, noise);
        x.join(0, 0, 0, 500);
        // Literal length 4500: 12 additional bits; match length 500: 8; distance 4500: 12; states 17; the END.
        Checks.due("4500 literals", x.write(1, 0, 4), 9 + 3 + 4500 + 2 + 7);
        Checks.due("with k 0", x.about(5), 1);
        Checks.due("strayed", x.strayed(0), 0);
        // The same with 4096, all alike in the second row.
        Checks.load(x, 0, Checks.part(noise, 0, 300));
        x.give(0, 1, 0);
        x.again(0, 1, 4094);
        x.join(0, 0, 0, 300);
        x.set(2, 4695);
        Checks.due("written", x.write(1, 0, 4) > 0, true);
        Checks.due("strayed", x.strayed(0), 0);
    }

    // 127 sequences are told in one byte, 128 in two.
    private static void manySequences() {
        byte[] base = new byte[20];
        new Random(16).nextBytes(base);
        byte[] row = base;
        for (int i = 0; i < 128; i++) {
            row = Checks.join(row, Checks.bytes(i, 255 - i), Checks.part(base, 0, 10));
            if (i >= 126) {
                PackHouse x = flagged(0);
                Checks.load(x, 0, row);
                Checks.due("written", x.write(1, 0, 4) > 0, true);
                Checks.due("sequences", x.about(4), i + 1);
                Checks.due("strayed", x.strayed(0), 0);
                Checks.due("read", x.read(2, 1, 4, 65536), row.length);
                Checks.due("sequences done", x.about(15), i + 1);
            }
        }
    }

    // One literal between two matches: plain and one byte have as many bytes, and plain comes first.
    private static void oneLiteral() {
        Random random = new Random(12);
        byte[] first = new byte[300];
        random.nextBytes(first);
        PackHouse x = flagged(0);
        x.set(2, 300);
        Checks.load(x, 0, Checks.join(first, Checks.part(first, 100, 250), Checks.bytes(first[250] + 1),
            Checks.part(first, 10, 90)));
        Checks.due("written", x.write(1, 0, 4) > 0, true);
        Checks.due("LITERALS with k 0", x.about(5), 1);
        Checks.due("sequences", x.about(4), 2);
    }

    // All bytes once, which no description tells, and a long match.
    private static void undescribed() {
        byte[] row = new byte[256];
        for (int i = 0; i < 256; i++) {
            row[i] = (byte) (i * 77);
        }
        PackHouse x = flagged(0);
        Checks.load(x, 0, Checks.join(row, Checks.part(row, 10, 200)));
        // Additional bits 8, 7 and 7, states 17, the END: 40 bits.
        Checks.due("written", x.write(1, 0, 4), 9 + 2 + 256 + 2 + 5);
        Checks.due("LITERALS with k 0", x.about(5), 1);
        Checks.due("strayed", x.strayed(0), 0);
    }

    private static void modes() {
        // Many sequences of all the same symbols: one table of mode 1 or more, then as they were.
        Random random = new Random(7);
        byte[] some = new byte[64];
        random.nextBytes(some);
        byte[] row = some;
        for (int i = 0; i < 40; i++) {
            row = Checks.join(row, Checks.bytes(100 + i), Checks.part(some, 20, 40));
        }
        PackHouse x = flagged(0);
        x.set(2, 464);
        Checks.load(x, 0, row);
        Checks.due("written", x.write(1, 0, 4) > 0, true);
        int tables = 0;
        for (int i = 9; i <= 12; i++) {
            tables += x.about(i);
        }
        Checks.due("three tables a block", tables, 3 * x.about(3));
        Checks.due("mode 1", x.about(10) > 0, true);
        Checks.due("mode 3", x.about(12) > 0, true);
        Checks.due("strayed", x.strayed(0) + x.strayed(1), 0);
    }

    private static void refusals() {
        PackHouse x = flagged(3);
        Checks.load(x, 0, Checks.text("abcabcabcabcabcabcabcabc"));
        Checks.due("written", x.write(1, 0, 4) > 0, true);
        int kinds = x.about(3);
        int place = x.about(0);
        x.set(2, 1);
        Checks.load(x, 2, Checks.same(1, 16384));
        Checks.due("65537 and more would come", x.write(1, 2, 4), -1);
        Checks.due("about stays", x.about(3), kinds);
        Checks.due("PLACE stays", x.about(0), place);
        x.give(2, 1, 0);
        x.set(2, 65536);
        Checks.due("16385 bytes", x.write(1, 2, 4), -1);
        x.cut(2, 16384);
        Checks.due("16384 bytes", x.write(1, 2, 4), 4 + 2 + 2 + 4 + 4);
        x.set(2, 65536);
        Checks.load(x, 3, Checks.same(9, 10));
        x.learn(3);
        Checks.due("16384 bytes with a dictionary", x.write(1, 2, 4), -1);
        x.cut(2, 16374);
        Checks.due("16374 bytes with a dictionary of 10", x.write(2, 2, 4), 16);
        Checks.due("the row itself", x.size(2), 16);
        x.forget(1);
        Checks.due("and back again", x.read(2, 2, 4, 65536), 16374);
    }

    private static void windows() {
        // A match 1500 back is not found in a WINDOW of 1024, unless SINGLE makes that the SIZE.
        Random random = new Random(3);
        byte[] noise = new byte[1500];
        random.nextBytes(noise);
        byte[] row = Checks.join(noise, Checks.part(noise, 0, 200));
        PackHouse x = flagged(0);
        x.set(8, 0);
        Checks.load(x, 0, row);
        Checks.due("WINDOW 1024", x.write(1, 0, 4), 6 + 2 * 3 + 1700);
        dueAbout("WINDOW 1024", x, 2, 0, 0, 0);
        x.set(8, 1);
        Checks.due("WINDOW 2048", x.write(1, 0, 4) < 1600, true);
        dueAbout("WINDOW 2048", x, 0, 0, 1, 1);
        x.set(8, 0);
        x.set(7, 4);
        Checks.due("SINGLE", x.write(1, 0, 4) < 1600, true);
        dueAbout("SINGLE", x, 0, 0, 1, 1);
    }
}
