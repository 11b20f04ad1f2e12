/** Promises 20, 21, 23 and 24: kind, open, about, strayed. */
public final class KindTest {
    private static final byte[] TAG_MARK = Checks.bytes(255, 6, 0, 0, 115, 78, 97, 80, 112, 89);

    public static void main(String[] args) {
        kinds();
        opens();
        wrongWhats();
        strays();
        Checks.end("KindTest");
    }

    private static byte[] spare(int first, int n) {
        return Checks.join(Checks.bytes(first, 42, 77, 24), Checks.number(n, 4), new byte[n]);
    }

    private static void dueKind(String what, byte[] row, int want) {
        PackHouse x = new PackHouse();
        Checks.load(x, 3, row);
        Checks.due(what, x.kind(3), want);
    }

    private static void kinds() {
        byte[][] marks = {Checks.bytes(4, 34, 77, 24), TAG_MARK, Checks.bytes(40, 181, 47, 253),
            Checks.bytes(55, 164, 48, 236)};
        int[] formats = {1, 3, 4, 5};
        for (int i = 0; i < 4; i++) {
            dueKind("format " + formats[i], marks[i], formats[i]);
            dueKind("and more", Checks.join(marks[i], Checks.bytes(1, 2)), formats[i]);
            dueKind("cut", Checks.part(marks[i], 0, marks[i].length - 1), 0);
            dueKind("another", Checks.with(marks[i], marks[i].length - 1, 1), 0);
            dueKind("behind spare bytes", Checks.join(spare(80, 0), spare(95, 5), marks[i]), formats[i]);
            dueKind("ahead of spare bytes that are cut", Checks.join(marks[i], Checks.part(spare(84, 9), 0, 8)),
                formats[i]);
        }
        dueKind("no bytes", new byte[0], 0);
        dueKind("spare bytes alone", spare(90, 3), 0);
        dueKind("spare bytes of none alone", spare(90, 0), 0);
        dueKind("spare bytes that are cut", Checks.part(spare(90, 3), 0, 10), 0);
        dueKind("half of spare bytes", Checks.part(spare(90, 3), 0, 6), 0);
        dueKind("spare bytes without a sign", Checks.with(spare(90, 3), 7, 255), 0);
        PackHouse x = new PackHouse();
        Checks.load(x, 0, Checks.join(spare(80, 0), marks[0]));
        x.cut(0, 11);
        Checks.due("bytes that were cut do not count", x.kind(0), 0);
        Checks.due("no row", x.kind(4), -1);
        Checks.due("no row", x.kind(-1), -1);
    }

    private static void opens() {
        PackHouse x = new PackHouse();
        byte[] row = Checks.text("what is opened is what was written, what is opened is what was written");
        for (int format : new int[] {1, 3, 4}) {
            Checks.load(x, 0, row);
            int n = x.write(1, 0, format);
            Checks.due("kind", x.kind(1), format);
            Checks.due("open", x.open(2, 1, row.length), row.length);
            Checks.due("PLACE", x.about(0), n);
            Checks.due("differ", x.differ(0, 2), -1);
            Checks.due("open with too few", x.open(2, 1, row.length - 1) < 0, true);
            Checks.load(x, 3, Checks.join(spare(81, 4), Checks.row(x, 1)));
            Checks.due("open behind spare bytes", x.open(2, 3, 999), format == 3 ? -8 : row.length);
            Checks.due("PLACE", x.about(0), format == 3 ? 0 : n + 12);
        }
        Checks.due("no such row", x.open(4, 0, 9), -50);
        Checks.due("no such row", x.open(0, -1, 9), -50);
        Checks.due("most below", x.open(0, 0, -1), -50);
        Checks.due("most above", x.open(0, 0, 65537), -50);
        Checks.due("no kind", x.open(0, 0, 9), -51);
        Checks.due("no kind, but refused first", x.open(0, 0, -1), -50);
        Checks.load(x, 1, Checks.bytes(55, 164, 48, 236));
        Checks.due("a dictionary", x.open(0, 1, 9), -51);
        Checks.due("PLACE stays", x.about(0), x.size(3));
        Checks.due("the counts of FORMAT 4", x.about(13) + x.about(16), 1 + row.length);
    }

    private static void wrongWhats() {
        PackHouse x = new PackHouse();
        for (int what : new int[] {-1, 21, Integer.MIN_VALUE, Integer.MAX_VALUE}) {
            Checks.due("about " + what, x.about(what), -1);
        }
        for (int what : new int[] {-1, 2, Integer.MIN_VALUE, Integer.MAX_VALUE}) {
            Checks.due("strayed " + what, x.strayed(what), -1);
            Checks.due("forget " + what, x.forget(what), false);
        }
    }

    // Each row is written in each format and way, into itself too, and comes back.
    private static void strays() {
        java.util.Random random = new java.util.Random(11);
        for (int turn = 0; turn < 60; turn++) {
            PackHouse x = new PackHouse();
            byte[] row = new byte[random.nextInt(turn % 10 == 0 ? 5000 : 300)];
            int letters = 1 + random.nextInt(turn % 3 == 0 ? 256 : 4);
            for (int i = 0; i < row.length; i++) {
                row[i] = (byte) (random.nextInt(4) == 0 && i > 9 ? row[i - 9] : random.nextInt(letters));
            }
            x.set(0, turn % 4);
            x.set(1, 3 + turn % 6);
            x.set(2, turn % 5 == 0 ? 1 + random.nextInt(200) : 65536);
            x.set(3, 64 | random.nextInt(64) & ~2);
            x.set(6, random.nextInt(4));
            x.set(7, random.nextInt(16));
            x.set(8, random.nextInt(12));
            Checks.load(x, 0, row);
            for (int format = 0; format < 5; format++) {
                x.cut(1, 0);
                x.join(1, 0, 0, row.length);
                int n = x.write(1, 1, format);
                Checks.due("not above the BOUND", n <= x.bound(format, row.length), true);
                if (n >= 0) {
                    Checks.due("size", x.size(1), n);
                    Checks.due("back again", x.read(1, 1, format, row.length), row.length);
                    Checks.due("differ", x.differ(0, 1), -1);
                }
            }
            Checks.due("strayed 0", x.strayed(0), 0);
            Checks.due("strayed 1", x.strayed(1), 0);
        }
    }
}
