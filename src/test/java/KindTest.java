/** Promises 20, 21, 23 and 24: kind, open, about, strayed. */
public final class KindTest {
    private static final byte[] TAG_MARK = Checks.bytes(255, 6, 0, 0, 115, 78, 97, 80, 112, 89);

    public static void main(String[] args) {
        kinds();
        spares();
        opens();
        countsBeforeAny();
        wrongWhats();
        forgets();
        strays();
        Checks.end("KindTest");
    }

    private static byte[] spare(int first, int n) {
        return Checks.join(Checks.bytes(first, 42, 77, 24), Checks.number(n, 4), new byte[n]);
    }

    private static void dueKind(String what, byte[] row, int want) {
        PackHouse x = new PackHouse();
        Checks.load(x, 3, row);
        Checks.due(what, x.kind(3), want);
    }

    private static void kinds() {
        byte[][] marks = {Checks.bytes(4, 34, 77, 24), TAG_MARK, Checks.bytes(40, 181, 47, 253),
            Checks.bytes(55, 164, 48, 236)};
        int[] formats = {1, 3, 4, 5};
        for (int i = 0; i < 4; i++) {
            dueKind("format " + formats[i], marks[i], formats[i]);
            dueKind("and more", Checks.join(marks[i], Checks.bytes(1, 2)), formats[i]);
            dueKind("cut", Checks.part(marks[i], 0, marks[i].length - 1), 0);
            dueKind("another", Checks.with(marks[i], marks[i].length - 1, 1), 0);
            dueKind("behind spare bytes", Checks.join(spare(80, 0), spare(95, 5), marks[i]), formats[i]);
            dueKind("ahead of spare bytes that are cut", Checks.join(marks[i], Checks.part(spare(84, 9), 0, 8)),
                formats[i]);
        }
        dueKind("no bytes", new byte[0], 0);
        dueKind("spare bytes alone", spare(90, 3), 0);
        dueKind("spare bytes of none alone", spare(90, 0), 0);
        dueKind("spare bytes that are cut", Checks.part(spare(90, 3), 0, 10), 0);
        dueKind("half of spare bytes", Checks.part(spare(90, 3), 0, 6), 0);
        dueKind("spare bytes without a sign", Checks.with(spare(90, 3), 7, 255), 0);
        PackHouse x = new PackHouse();
        Checks.load(x, 0, Checks.join(spare(80, 0), marks[0]));
        x.cut(0, 11);
        Checks.due("bytes that were cut do not count", x.kind(0), 0);
        for (byte[] mark : marks) {
            for (int n = 0; n < mark.length; n++) {
                Checks.load(x, 1, Checks.join(spare(80, 3), mark));
                x.cut(1, 11 + n);
                Checks.due("a mark that was cut at " + n, x.kind(1), 0);
            }
        }
        Checks.due("no row", x.kind(4), -1);
        Checks.due("no row", x.kind(-1), -1);
        // Rows of 256 bytes, and as much of a mark as there is room for.
        for (int i = 0; i < 4; i++) {
            for (int n = 0; n <= marks[i].length; n++) {
                dueKind("at the end", Checks.join(spare(80, 256 - 8 - n), Checks.part(marks[i], 0, n)),
                    n == marks[i].length ? formats[i] : 0);
            }
        }
        for (int n = 1; n < 8; n++) {
            dueKind("spare bytes at the end", Checks.join(spare(80, 256 - 8 - n), Checks.part(spare(80, 0), 0, n)), 0);
        }
    }

    // SPARE bytes on each boundary, ahead of each mark.
    private static void spares() {
        byte[][] marks = {Checks.bytes(4, 34, 77, 24), TAG_MARK, Checks.bytes(40, 181, 47, 253),
            Checks.bytes(55, 164, 48, 236)};
        int[] formats = {1, 3, 4, 5};
        for (int i = 0; i < 4; i++) {
            byte[] mark = marks[i];
            for (int first = 78; first < 98; first++) {
                dueKind("behind " + first, Checks.join(spare(first, 3), mark), first >= 80 && first <= 95 ? formats[i] : 0);
            }
            for (int at = 1; at < 4; at++) {
                byte[] s = spare(80, 3);
                dueKind("behind no spare bytes", Checks.join(Checks.with(s, at, s[at] + 1), mark), 0);
            }
            for (int told = 0; told < 6; told++) {
                byte[] all = Checks.join(Checks.with(spare(88, 3), 4, told), mark);
                dueKind("told " + told + " of 3", all, told == 3 ? formats[i] : 0);
            }
            for (int n = 0; n < mark.length; n++) {
                dueKind("a mark of " + n, Checks.part(mark, 0, n), 0);
                dueKind("a mark of " + n + " behind spare bytes", Checks.join(spare(80, 1), Checks.part(mark, 0, n)), 0);
                dueKind("another mark", Checks.with(mark, n, mark[n] ^ 64), 0);
            }
            // As many as a row can have.
            byte[] most = Checks.join(spare(95, 65536 - 8 - mark.length), mark);
            dueKind("at the end of a full row", most, formats[i]);
            dueKind("told one more", Checks.with(most, 4, most[4] + 1), 0);
        }
        byte[] many = {};
        for (int i = 0; i < 100; i++) {
            many = Checks.join(many, spare(80 + i % 16, i % 3));
        }
        dueKind("a hundred", Checks.join(many, marks[0]), 1);
        dueKind("a hundred, and no mark", many, 0);
        for (long told : new long[] {1L << 31, (1L << 32) - 1, (1L << 32) - 8, (1L << 32) - 12}) {
            byte[] far = Checks.join(Checks.bytes(80, 42, 77, 24), Checks.number(told, 4), marks[0]);
            dueKind("told " + told, far, 0);
        }
    }

    // 0 before any write() or read() in FORMAT 4; those in other FORMATS do not count, nor do refused ones.
    private static void countsBeforeAny() {
        PackHouse x = new PackHouse();
        Checks.load(x, 0, Checks.text("one and one and one and one and one"));
        for (int format = 0; format < 6; format++) {
            if (format != 4) {
                Checks.due("write", x.write(1, 0, format) > 0, true);
                Checks.due("read", x.read(2, 1, format, 65536), format == 5 ? -50 : 35);
            }
        }
        Checks.due("refused", x.write(1, 4, 4) + x.read(4, 1, 4, 0) + x.open(4, 1, 0), -101);
        for (int what = 1; what <= 17; what++) {
            Checks.due("about " + what, x.about(what), 0);
        }
        int place = x.about(0);
        Checks.due("write", x.write(1, 0, 4) > 0 && x.cut(0, 34) && x.write(1, 0, 4) > 0, true);
        Checks.due("PLACE stays", x.about(0), place);
        Checks.due("blocks", x.about(1) + x.about(2) + x.about(3), 1);
        for (int what = 13; what <= 17; what++) {
            Checks.due("that it is read again is no read(): about " + what, x.about(what), 0);
        }
        Checks.due("read", x.read(2, 1, 4, 65536), 34);
        Checks.due("PLACE", x.about(0), x.size(1));
        Checks.due("frames", x.about(13), 1);
        Checks.due("bytes", x.about(16), 34);
    }

    private static void opens() {
        PackHouse x = new PackHouse();
        byte[] row = Checks.text("what is opened is what was written, what is opened is what was written");
        for (int format : new int[] {1, 3, 4}) {
            Checks.load(x, 0, row);
            int n = x.write(1, 0, format);
            Checks.due("kind", x.kind(1), format);
            Checks.due("open", x.open(2, 1, row.length), row.length);
            Checks.due("PLACE", x.about(0), n);
            Checks.due("differ", x.differ(0, 2), -1);
            Checks.due("open with too few", x.open(2, 1, row.length - 1) < 0, true);
            Checks.load(x, 3, Checks.join(spare(81, 4), Checks.row(x, 1)));
            Checks.due("open behind spare bytes", x.open(2, 3, 999), format == 3 ? -8 : row.length);
            Checks.due("PLACE", x.about(0), format == 3 ? 0 : n + 12);
        }
        for (int format : new int[] {1, 3, 4}) {
            x.cut(0, 0);
            int n = x.write(1, 0, format);
            Checks.due("open of no content, none may be", x.open(2, 1, 0), 0);
            Checks.due("PLACE", x.about(0), n);
            Checks.due("open with the greatest most", x.open(2, 1, 65536), 0);
            x.give(0, 1, 0);
            x.write(1, 0, format);
            Checks.due("open of one byte, none may be", x.open(2, 1, 0), format == 4 ? -7 : -3);
            Checks.due("open of one byte, one may be", x.open(2, 1, 1), 1);
        }
        Checks.load(x, 0, row);
        x.write(1, 0, 4);
        x.open(2, 1, 65536);
        Checks.load(x, 3, Checks.row(x, 1));
        Checks.due("no such row", x.open(4, 0, 9), -50);
        Checks.due("no such row", x.open(0, -1, 9), -50);
        Checks.due("most below", x.open(0, 0, -1), -50);
        Checks.due("most above", x.open(0, 0, 65537), -50);
        Checks.due("no kind", x.open(0, 0, 9), -51);
        Checks.due("no kind, but refused first", x.open(0, 0, -1), -50);
        Checks.load(x, 1, Checks.bytes(55, 164, 48, 236));
        Checks.due("a dictionary", x.open(0, 1, 9), -51);
        Checks.due("PLACE stays", x.about(0), x.size(3));
        Checks.due("the counts of FORMAT 4", x.about(13) + x.about(16), 1 + row.length);
    }

    private static void wrongWhats() {
        PackHouse x = new PackHouse();
        for (int what : new int[] {-1, 21, Integer.MIN_VALUE, Integer.MAX_VALUE}) {
            Checks.due("about " + what, x.about(what), -1);
        }
        for (int what : new int[] {-1, 2, Integer.MIN_VALUE, Integer.MAX_VALUE}) {
            Checks.due("strayed " + what, x.strayed(what), -1);
            Checks.due("forget " + what, x.forget(what), false);
        }
    }

    // HISTORY and DICTIONARY are forgotten one by one; what is not there is forgotten, too.
    private static void forgets() {
        byte[] byHistory = Checks.bytes(0x00, 3, 0, 0);
        byte[] byDictionary = Checks.bytes(40, 181, 47, 253, 0, 80, 8 * 7 + 5, 0, 0, 0, 1, 84, 0, 2, 0, 6);
        for (int what = 0; what < 2; what++) {
            PackHouse x = new PackHouse();
            Checks.load(x, 0, Checks.text("abc"));
            Checks.due("forget what is not there", x.forget(0) && x.forget(1), true);
            Checks.due("history", x.history(0), true);
            Checks.due("learn", x.learn(0), 3);
            Checks.due("forget", x.forget(what), true);
            Checks.due("HISTORY", x.about(18), what == 0 ? 0 : 3);
            Checks.due("content", x.about(19), what == 0 ? 3 : 0);
            Checks.load(x, 1, byHistory);
            Checks.due("read behind HISTORY", x.read(2, 1, 0, 9), what == 0 ? -2 : 4);
            Checks.load(x, 1, byDictionary);
            Checks.due("read with the DICTIONARY", x.read(2, 1, 4, 9), what == 0 ? 3 : -18);
        }
    }

    // Each row is written in each format and way, into itself too, and comes back.
    private static void strays() {
        java.util.Random random = new java.util.Random(11);
        for (int turn = 0; turn < 60; turn++) {
            PackHouse x = new PackHouse();
            byte[] row = new byte[random.nextInt(turn % 10 == 0 ? 5000 : 300)];
            int letters = 1 + random.nextInt(turn % 3 == 0 ? 256 : 4);
            for (int i = 0; i < row.length; i++) {
                row[i] = (byte) (random.nextInt(4) == 0 && i > 9 ? row[i - 9] : random.nextInt(letters));
            }
            x.set(0, turn % 4);
            x.set(1, 3 + turn % 6);
            x.set(2, turn % 5 == 0 ? 1 + random.nextInt(200) : 65536);
            x.set(3, 64 | random.nextInt(64) & ~2);
            x.set(6, random.nextInt(4));
            x.set(7, random.nextInt(16));
            x.set(8, random.nextInt(12));
            Checks.load(x, 0, row);
            for (int format = 0; format < 5; format++) {
                x.cut(1, 0);
                x.join(1, 0, 0, row.length);
                int n = x.write(1, 1, format);
                Checks.due("not above the BOUND", n <= x.bound(format, row.length), true);
                if (n >= 0) {
                    Checks.due("size", x.size(1), n);
                    Checks.due("back again", x.read(1, 1, format, row.length), row.length);
                    Checks.due("differ", x.differ(0, 1), -1);
                }
            }
            Checks.due("strayed 0", x.strayed(0), 0);
            Checks.due("strayed 1", x.strayed(1), 0);
        }
    }
}
