/** Promises 1 to 9: a new object, feed, give, again, cut, join, size, byteAt, differ. */
public final class RowsTest {
    public static void main(String[] args) {
        aNewObject();
        feed();
        give();
        again();
        cut();
        join();
        reading();
        differ();
        eachRow();
        parts();
        full();
        overItself();
        Checks.end("RowsTest");
    }

    private static void aNewObject() {
        PackHouse x = new PackHouse();
        for (int r = 0; r < 4; r++) {
            Checks.due("new size " + r, x.size(r), 0);
        }
        int[] first = {2, 4, 65536, 100, 4, 0, 0, 3, 6, 0};
        for (int i = 0; i < first.length; i++) {
            Checks.due("new get " + i, x.get(i), first[i]);
        }
        for (int i = 0; i <= 20; i++) {
            Checks.due("new about " + i, x.about(i), 0);
        }
        Checks.due("new strayed 0", x.strayed(0), 0);
        Checks.due("new strayed 1", x.strayed(1), 0);
    }

    private static void feed() {
        PackHouse x = new PackHouse();
        Checks.due("feed", x.feed(2, 0x01020304, -1, 0x80000000, 7), true);
        Checks.dueRow("feed", x, 2, Checks.bytes(1, 2, 3, 4, 255, 255, 255, 255, 128, 0, 0, 0, 0, 0, 0, 7));
        Checks.due("feed to no row", x.feed(4, 1, 2, 3, 4), false);
        Checks.due("feed to no row", x.feed(-1, 1, 2, 3, 4), false);
        Checks.due("feed up to the limit", x.again(2, 16, 4094) && x.feed(2, 1, 2, 3, 4), true);
        Checks.due("feed beyond the limit", x.feed(2, 1, 2, 3, 4), false);
        Checks.due("size at the limit", x.size(2), 65536);
        x.cut(2, 65521);
        Checks.due("feed with room for 15 bytes", x.feed(2, 1, 2, 3, 4), false);
        Checks.due("size after a refusal", x.size(2), 65521);
    }

    private static void give() {
        PackHouse x = new PackHouse();
        Checks.due("give 3", x.give(1, 3, 0x0A0B0C0D0E0F1011L), true);
        Checks.due("give 8", x.give(1, 8, 0xFF00000000000001L), true);
        Checks.due("give 1", x.give(1, 1, 0x8000000000000000L), true);
        Checks.dueRow("give", x, 1, Checks.bytes(10, 11, 12, 255, 0, 0, 0, 0, 0, 0, 1, 128));
        Checks.due("give 0", x.give(1, 0, 1), false);
        Checks.due("give 9", x.give(1, 9, 1), false);
        Checks.due("give -1", x.give(1, -1, 1), false);
        Checks.due("give to no row", x.give(4, 1, 1), false);
        x.cut(1, 1);
        x.again(1, 1, 65531);
        Checks.due("give 5 with room for 4", x.give(1, 5, 1), false);
        Checks.due("give 4 with room for 4", x.give(1, 4, 1), true);
        Checks.due("give 1 with no room", x.give(1, 1, 1), false);
    }

    private static void again() {
        PackHouse x = new PackHouse();
        Checks.due("again of no bytes", x.again(0, 1, 1), false);
        Checks.due("again 0 of no bytes", x.again(0, 0, 1), false);
        x.give(0, 3, 0x0102030000000000L);
        Checks.due("again", x.again(0, 2, 2), true);
        Checks.dueRow("again", x, 0, Checks.bytes(1, 2, 3, 2, 3, 2, 3));
        Checks.due("again no times", x.again(0, 7, 0), true);
        Checks.due("again of all", x.again(0, 7, 1), true);
        Checks.due("size", x.size(0), 14);
        Checks.due("again of too many", x.again(0, 15, 1), false);
        Checks.due("again of none", x.again(0, 0, 1), false);
        Checks.due("again of -1", x.again(0, -1, 1), false);
        Checks.due("again -1 times", x.again(0, 1, -1), false);
        Checks.due("again in no row", x.again(4, 1, 1), false);
        Checks.due("again far too often", x.again(0, 14, Integer.MAX_VALUE), false);
        Checks.due("again one too often", x.again(0, 1, 65523), false);
        Checks.due("again just enough", x.again(0, 1, 65522), true);
        Checks.due("again no times when full", x.again(0, 65536, 0), true);
    }

    private static void cut() {
        PackHouse x = new PackHouse();
        x.feed(3, 1, 2, 3, 4);
        Checks.due("cut above", x.cut(3, 17), false);
        Checks.due("cut below 0", x.cut(3, -1), false);
        Checks.due("cut no row", x.cut(4, 0), false);
        Checks.due("cut to all", x.cut(3, 16), true);
        Checks.due("cut", x.cut(3, 4), true);
        Checks.dueRow("cut", x, 3, Checks.bytes(0, 0, 0, 1));
        Checks.due("cut to none", x.cut(3, 0), true);
        Checks.due("size", x.size(3), 0);
    }

    private static void join() {
        PackHouse x = new PackHouse();
        x.give(0, 5, 0x0102030405000000L);
        Checks.due("join", x.join(1, 0, 1, 4), true);
        Checks.due("join again", x.join(1, 0, 0, 5), true);
        Checks.due("join an empty part", x.join(1, 0, 3, 3), true);
        Checks.due("join a part that is none", x.join(1, 0, 4, 2), true);
        Checks.due("join a part beyond", x.join(1, 0, 0, 6), true);
        Checks.due("join a part before", x.join(1, 0, -1, 3), true);
        Checks.dueRow("join", x, 1, Checks.bytes(2, 3, 4, 1, 2, 3, 4, 5));
        Checks.due("join to itself", x.join(0, 0, 1, 5), true);
        Checks.dueRow("join to itself", x, 0, Checks.bytes(1, 2, 3, 4, 5, 2, 3, 4, 5));
        Checks.due("join to no row", x.join(4, 0, 0, 1), false);
        Checks.due("join of no row", x.join(0, -1, 0, 1), false);
        x.again(1, 1, 65536 - 9);
        Checks.due("join too many", x.join(1, 0, 0, 2), false);
        Checks.due("join an empty part to a row that is nearly full", x.join(1, 0, 2, 1), true);
        Checks.due("join the last one", x.join(1, 0, 0, 1), true);
        Checks.due("join itself when full", x.join(1, 1, 0, 1), false);
        Checks.due("size", x.size(1), 65536);
    }

    private static void reading() {
        PackHouse x = new PackHouse();
        x.give(0, 2, 0xFF80000000000000L);
        Checks.due("size", x.size(0), 2);
        Checks.due("size of no row", x.size(4), -1);
        Checks.due("size of no row", x.size(-1), -1);
        Checks.due("byteAt 0", x.byteAt(0, 0), 255);
        Checks.due("byteAt 1", x.byteAt(0, 1), 128);
        Checks.due("byteAt 2", x.byteAt(0, 2), -1);
        Checks.due("byteAt -1", x.byteAt(0, -1), -1);
        Checks.due("byteAt of no row", x.byteAt(4, 0), -1);
        x.cut(0, 1);
        Checks.due("byteAt of a byte that was cut", x.byteAt(0, 1), -1);
    }

    private static void differ() {
        PackHouse x = new PackHouse();
        Checks.due("differ of empty rows", x.differ(0, 1), -1);
        x.give(0, 3, 0x0102030000000000L);
        Checks.due("differ with an empty row", x.differ(0, 1), 0);
        x.give(1, 2, 0x0102000000000000L);
        Checks.due("differ when one ends", x.differ(0, 1), 2);
        Checks.due("differ when the other ends", x.differ(1, 0), 2);
        x.give(1, 1, 0x0900000000000000L);
        Checks.due("differ at the last", x.differ(0, 1), 2);
        Checks.load(x, 2, Checks.bytes(2, 2, 3));
        Checks.due("differ at the first", x.differ(0, 2), 0);
        Checks.load(x, 2, Checks.bytes(1, 3, 4));
        Checks.due("differ at the second, and later on", x.differ(2, 0), 1);
        Checks.due("differ from itself", x.differ(0, 0), -1);
        Checks.due("differ of no row", x.differ(0, 4), -2);
        Checks.due("differ of no row", x.differ(-1, 0), -2);
    }

    // Rows 0 .. 3 are there, and none takes what another one is given.
    private static void eachRow() {
        PackHouse x = new PackHouse();
        for (int r = 0; r < 4; r++) {
            Checks.due("give", x.give(r, 1 + r, 0x1112131415161718L + ((long) r << 56)), true);
        }
        for (int r = 0; r < 4; r++) {
            Checks.dueRow("row " + r, x, r, Checks.part(Checks.bytes(17 + r, 18, 19, 20), 0, r + 1));
            Checks.due("feed", x.feed(r, r, 0, 0, r), true);
            Checks.due("size", x.size(r), 17 + r);
            Checks.due("last", x.byteAt(r, 16 + r), r);
            Checks.due("behind the last", x.byteAt(r, 17 + r), -1);
            Checks.due("again", x.again(r, 1, r), true);
            Checks.due("size", x.size(r), 17 + 2 * r);
            Checks.due("cut to one less", x.cut(r, 16 + 2 * r), true);
            Checks.due("cut to none", x.cut(r, 0), true);
            Checks.due("first of none", x.byteAt(r, 0), -1);
        }
        for (int n = 1; n <= 8; n++) {
            x.cut(2, 0);
            Checks.due("give " + n, x.give(2, n, 0x8182838485868788L), true);
            Checks.dueRow("give " + n, x, 2, Checks.part(Checks.hex("8182838485868788"), 0, n));
        }
    }

    private static boolean isPart(int from, int to, int n) {
        return from >= 0 && from <= to && to <= n;
    }

    // Each PART there is of rows of 0 to 4 bytes, those one further on each side, and the far ones.
    private static void parts() {
        int[] places = {Integer.MIN_VALUE, -1, 0, 1, 2, 3, 4, 5, Integer.MAX_VALUE};
        for (int n = 0; n <= 4; n++) {
            byte[] row = Checks.part(Checks.bytes(200, 7, 0, 255), 0, n);
            for (int from : places) {
                PackHouse x = new PackHouse();
                Checks.load(x, 0, row);
                for (int to : places) {
                    String what = "part " + from + " .. " + to + " of " + n;
                    byte[] part = isPart(from, to, n) ? Checks.part(row, from, to) : new byte[0];
                    x.cut(1, 0);
                    x.give(1, 1, 0x0900000000000000L);
                    Checks.due(what + ": join", x.join(1, 0, from, to), true);
                    Checks.dueRow(what + ": join", x, 1, Checks.join(Checks.bytes(9), part));
                    Checks.due(what + ": narrow", x.narrow(0, from, to, 7), Checks.narrow(part, 7));
                    Checks.due(what + ": wide", x.wide(0, from, to, 7), Checks.wide(part, 7));
                    Checks.due(what + ": poly", x.poly(0, from, to, true), Checks.masked(part));
                }
            }
        }
    }

    // 65,536 bytes, reached by each of the calls that append.
    private static void full() {
        for (int way = 0; way < 5; way++) {
            PackHouse x = new PackHouse();
            x.feed(0, 1, 2, 3, 4);
            x.again(0, 16, 4094);
            Checks.due("size", x.size(0), 65520);
            boolean done = way == 0 ? x.feed(0, 5, 6, 7, 8)
                : way == 1 ? x.give(0, 8, 9L << 56) && x.give(0, 7, 9) && x.give(0, 1, 255L << 56)
                : way == 2 ? x.again(0, 8, 2) : way == 3 ? x.again(0, 16, 1) : x.join(0, 0, 65504, 65520);
            Checks.due("up to the limit, way " + way, done, true);
            Checks.due("size", x.size(0), 65536);
            Checks.due("the last byte", x.byteAt(0, 65535), way == 0 ? 8 : way == 1 ? 255 : 4);
            Checks.due("behind the last", x.byteAt(0, 65536), -1);
            Checks.due("give", x.give(0, 1, 0), false);
            Checks.due("again no times", x.again(0, 1, 0), true);
            Checks.due("again no times of all", x.again(0, 65536, 0), true);
            Checks.due("again of one more", x.again(0, 65537, 0), false);
            Checks.due("join of no bytes", x.join(0, 0, 65536, 65536), true);
            Checks.due("join of no part", x.join(0, 0, 65535, 65537), true);
            Checks.due("join of all to another", x.join(1, 0, 0, 65536), true);
            Checks.due("alike", x.differ(0, 1), -1);
            x.cut(1, 65535);
            Checks.due("differ at the last", x.differ(0, 1), 65535);
            x.give(1, 1, 0x7700000000000000L);
            Checks.due("differ in the last", x.differ(1, 0), 65535);
            Checks.due("cut to one more", x.cut(0, 65537), false);
            Checks.due("cut to all", x.cut(0, 65536), true);
            Checks.due("history of all", x.history(0) && x.about(18) == 65536, true);
            Checks.due("learn all", x.learn(0), 65536);
            Checks.due("content", x.about(19), 65536);
        }
    }

    // A call that makes a row has read all it needs before.
    private static void overItself() {
        byte[] row = Checks.text("over and over and over and over again");
        for (int format = 0; format < 6; format++) {
            PackHouse x = new PackHouse();
            Checks.load(x, 0, row);
            int n = x.write(1, 0, format);
            Checks.due("as many over itself", x.write(0, 0, format), n);
            Checks.due("the same bytes", x.differ(0, 1), -1);
            if (format < 5) {
                Checks.due("read over itself", x.read(0, 0, format, 65536), row.length);
                Checks.due("PLACE", x.about(0), n);
                Checks.dueRow("read over itself", x, 0, row);
                Checks.due("a fault over itself", x.read(1, 1, format, row.length - 1) < 0, true);
                Checks.due("stays", x.size(1), n);
            }
            if (format == 1 || format == 3 || format == 4) {
                Checks.due("open over itself", x.open(1, 1, 65536), row.length);
                Checks.dueRow("open over itself", x, 1, row);
            }
        }
        PackHouse x = new PackHouse();
        Checks.load(x, 0, Checks.text("abc"));
        Checks.due("join", x.join(0, 0, 0, 3) && x.join(0, 0, 2, 6), true);
        Checks.dueRow("join", x, 0, Checks.text("abcabccabc"));
    }
}
