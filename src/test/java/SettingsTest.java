/** Promises 10, 11 and 22: set, get, bound. */
public final class SettingsTest {
    public static void main(String[] args) {
        edges();
        flags();
        bound();
        boundsOfMany();
        Checks.end("SettingsTest");
    }

    private static void edges() {
        int[][] ranges = {{0, 0, 3}, {1, 3, 8}, {2, 1, 65536}, {4, 4, 7}, {6, 0, 255}, {7, 0, 15}, {8, 0, 11}};
        for (int[] range : ranges) {
            PackHouse x = new PackHouse();
            int what = range[0];
            for (int v : new int[] {range[1], range[2]}) {
                Checks.due("set " + what + " " + v, x.set(what, v), true);
                Checks.due("get " + what, x.get(what), v);
            }
            for (int v : new int[] {range[1] - 1, range[2] + 1, Integer.MIN_VALUE, Integer.MAX_VALUE}) {
                Checks.due("set " + what + " " + v, x.set(what, v), false);
                Checks.due("get " + what, x.get(what), range[2]);
            }
        }
        PackHouse x = new PackHouse();
        for (int what : new int[] {5, 9}) {
            for (int v : new int[] {-1, 0, Integer.MIN_VALUE, Integer.MAX_VALUE}) {
                Checks.due("set " + what + " " + v, x.set(what, v), true);
                Checks.due("get " + what, x.get(what), v);
            }
        }
        for (int what : new int[] {-1, 10, Integer.MIN_VALUE, Integer.MAX_VALUE}) {
            Checks.due("set " + what, x.set(what, 4), false);
            Checks.due("get " + what, x.get(what), -1);
        }
    }

    private static void flags() {
        PackHouse x = new PackHouse();
        int now = 100;
        for (int v = -130; v < 260; v++) {
            boolean may = v >= 64 && v < 128 && (v & 2) == 0;
            Checks.due("set 3 " + v, x.set(3, v), may);
            now = may ? v : now;
        }
        Checks.due("get 3", x.get(3), now);
    }

    private static void bound() {
        PackHouse x = new PackHouse();
        for (int format = 0; format < 6; format++) {
            Checks.due("bound of -1", x.bound(format, -1), -1);
            Checks.due("bound of 16385", x.bound(format, 16385), -1);
        }
        Checks.due("bound of no format", x.bound(-1, 0), -1);
        Checks.due("bound of no format", x.bound(6, 0), -1);
        int[] none = {16, 27, 32, 10, 25, 700};
        int[] many = {16384 + 64 + 16, 27 + 8 + 16384, 32 + 16384 + 2730, 10 + 16384 + 8, 25 + 16384, 700 + 16384};
        for (int format = 0; format < 6; format++) {
            Checks.due("bound of none in " + format, x.bound(format, 0), none[format]);
            Checks.due("bound of many in " + format, x.bound(format, 16384), many[format]);
        }
        x.set(2, 100);
        x.set(6, 9);
        Checks.due("rows in 1", x.bound(1, 101), 27 + 16 + 101);
        Checks.due("rows and spare bytes in 3", x.bound(3, 101), 10 + 101 + 16 + 26);
        Checks.due("rows in 4", x.bound(4, 300), 22 + 9 + 300);
        x.set(2, 65536);
        x.set(8, 0);
        Checks.due("rows of a small window", x.bound(4, 1025), 22 + 6 + 1025);
        x.set(7, 4);
        Checks.due("rows when single", x.bound(4, 1025), 22 + 3 + 1025);
        Checks.due("no bytes when single", x.bound(4, 0), 25);
        x.set(2, 1);
        Checks.due("rows of one byte", x.bound(4, 16384), 22 + 3 * 16384 + 16384);
    }

    private static int rows(int n, int each) {
        return n / each + (n % each > 0 ? 1 : 0);
    }

    // Beside each number that a division or a row's end makes special.
    private static void boundsOfMany() {
        int[] sizes = {0, 1, 2, 5, 6, 7, 11, 12, 99, 100, 101, 199, 200, 201, 254, 255, 256, 509, 510, 511, 1023, 1024, 1025,
            2047, 2048, 2049, 16383, 16384};
        for (int cut : new int[] {1, 2, 100, 1023, 1024, 1025, 16383, 16384, 65535, 65536}) {
            for (int spare : new int[] {0, 1, 255}) {
                PackHouse x = new PackHouse();
                x.set(2, cut);
                x.set(6, spare);
                x.set(8, spare == 0 ? 0 : 1);
                x.set(7, spare == 255 ? 4 : 3);
                for (int n : sizes) {
                    int window = spare == 0 ? 1024 : spare == 1 ? 2048 : Math.max(1, n);
                    int blocks = n == 0 ? 1 : rows(n, Math.min(cut, window));
                    int r = rows(n, cut);
                    String what = n + " bytes, CUT " + cut + ", SPARE " + spare + ", FORMAT ";
                    Checks.due(what + 0, x.bound(0, n), n + n / 255 + 16);
                    Checks.due(what + 1, x.bound(1, n), 27 + 8 * r + n);
                    Checks.due(what + 2, x.bound(2, n), 32 + n + n / 6);
                    Checks.due(what + 3, x.bound(3, n), 10 + n + 8 * r + (spare > 0 ? r * (4 + spare) : 0));
                    Checks.due(what + 4, x.bound(4, n), 22 + 3 * blocks + n);
                    Checks.due(what + 5, x.bound(5, n), 700 + n);
                }
            }
        }
        PackHouse x = new PackHouse();
        for (int format : new int[] {-1, 6, Integer.MIN_VALUE, Integer.MAX_VALUE}) {
            Checks.due("no FORMAT " + format, x.bound(format, 0), -1);
            Checks.due("no FORMAT " + format, x.bound(format, 16384), -1);
        }
        for (int format = 0; format < 6; format++) {
            for (int n : new int[] {-1, 16385, 65536, Integer.MIN_VALUE, Integer.MAX_VALUE}) {
                Checks.due("FORMAT " + format + " of " + n, x.bound(format, n), -1);
            }
        }
    }
}
