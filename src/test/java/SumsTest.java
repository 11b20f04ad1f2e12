import java.util.Random;
import java.util.zip.CRC32C;

/** Promises 12 to 14: narrow, wide, poly. */
public final class SumsTest {
    public static void main(String[] args) {
        vectors();
        parts();
        polynomial();
        plainly();
        edges();
        Checks.end("SumsTest");
    }

    private static void vectors() {
        PackHouse x = new PackHouse();
        Checks.due("narrow of nothing", x.narrow(0, 0, 0, 0), 0x02CC5D05);
        Checks.due("narrow of nothing, seeded", x.narrow(0, 0, 0, 0x9E3779B1), 0x36B78AE7);
        Checks.due("wide of nothing", x.wide(0, 0, 0, 0), 0xEF46DB3751D8E999L);
        Checks.due("poly of nothing", x.poly(0, 0, 0, false), 0);
        Checks.load(x, 0, Checks.text("abc"));
        Checks.due("narrow of abc", x.narrow(0, 0, 3, 0), 0x32D153FF);
        Checks.due("wide of abc", x.wide(0, 0, 3, 0), 0x44BC2CF5AD770999L);
        Checks.load(x, 0, Checks.text("123456789"));
        Checks.due("poly of digits", x.poly(0, 0, 9, false), 0xE3069283);
        Checks.due("poly of digits, masked", x.poly(0, 0, 9, true),
            Integer.rotateLeft(0xE3069283, 17) + 0xA282EAD8);
    }

    private static void parts() {
        PackHouse x = new PackHouse();
        Checks.load(x, 0, Checks.text("xxabcxx"));
        Checks.due("narrow of a part", x.narrow(0, 2, 5, 0), 0x32D153FF);
        Checks.due("wide of a part", x.wide(0, 2, 5, 0), 0x44BC2CF5AD770999L);
        int[][] none = {{3, 2}, {-1, 3}, {0, 8}, {8, 8}, {Integer.MIN_VALUE, 1}, {0, Integer.MAX_VALUE}, {7, 7}};
        for (int[] part : none) {
            Checks.due("narrow of no part", x.narrow(0, part[0], part[1], 0), 0x02CC5D05);
            Checks.due("wide of no part", x.wide(0, part[0], part[1], 0), 0xEF46DB3751D8E999L);
            Checks.due("poly of no part", x.poly(0, part[0], part[1], false), 0);
            Checks.due("poly of no part, masked", x.poly(0, part[0], part[1], true), (int) 2726488792L);
        }
        for (int r : new int[] {-1, 4}) {
            Checks.due("narrow of no row", x.narrow(r, 0, 0, 5), 0);
            Checks.due("wide of no row", x.wide(r, 0, 0, 5), 0);
            Checks.due("poly of no row", x.poly(r, 0, 0, true), 0);
        }
    }

    private static void polynomial() {
        Random random = new Random(4);
        byte[] b = new byte[300];
        random.nextBytes(b);
        PackHouse x = new PackHouse();
        Checks.load(x, 1, b);
        for (int i = 0; i < 100; i++) {
            int from = random.nextInt(301);
            int to = from + random.nextInt(301 - from);
            CRC32C sum = new CRC32C();
            sum.update(b, from, to - from);
            int v = (int) sum.getValue();
            Checks.due("poly " + from + " " + to, x.poly(1, from, to, false), v);
            Checks.due("poly masked", x.poly(1, from, to, true), Integer.rotateLeft(v, 17) + (int) 2726488792L);
        }
    }

    private static void plainly() {
        Random random = new Random(5);
        byte[] b = new byte[200];
        random.nextBytes(b);
        PackHouse x = new PackHouse();
        Checks.load(x, 1, b);
        for (int n = 0; n <= 100; n++) {
            int from = random.nextInt(100);
            long seed = n % 3 == 0 ? 0 : random.nextLong();
            byte[] part = Checks.part(b, from, from + n);
            Checks.due("narrow of " + n, x.narrow(1, from, from + n, (int) seed), Checks.narrow(part, (int) seed));
            Checks.due("wide of " + n, x.wide(1, from, from + n, seed), Checks.wide(part, seed));
        }
    }

    // Each length up to two rounds of the lanes and more, of bytes and seeds with and without the highest bits.
    private static void edges() {
        long[] seeds = {0, 1, -1, Long.MIN_VALUE, Long.MAX_VALUE, 0xFFFFFFFFL, 0x80000000L};
        for (int v : new int[] {0, 127, 128, 255}) {
            byte[] row = Checks.same(v, 72);
            PackHouse x = new PackHouse();
            Checks.load(x, 0, row);
            for (int n = 0; n <= 72; n++) {
                byte[] part = Checks.part(row, 0, n);
                long seed = seeds[n % seeds.length];
                Checks.due("narrow of " + n + " bytes " + v, x.narrow(0, 72 - n, 72, (int) seed),
                    Checks.narrow(part, (int) seed));
                Checks.due("wide of " + n + " bytes " + v, x.wide(0, 72 - n, 72, seed), Checks.wide(part, seed));
                Checks.due("poly of " + n + " bytes " + v, x.poly(0, 72 - n, 72, true), Checks.masked(part));
            }
        }
        PackHouse x = new PackHouse();
        byte[] all = Checks.same(201, 65536);
        Checks.load(x, 3, all);
        Checks.due("narrow of 65536", x.narrow(3, 0, 65536, -1), Checks.narrow(all, -1));
        Checks.due("wide of 65536", x.wide(3, 0, 65536, -1), Checks.wide(all, -1));
        Checks.due("poly of 65536", x.poly(3, 0, 65536, true), Checks.masked(all));
        Checks.due("of one more: none", x.wide(3, 0, 65537, 0), 0xEF46DB3751D8E999L);
    }
}
