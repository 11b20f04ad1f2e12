import java.util.Random;

/** Promises 18 and 23 in FORMAT 4: rows on each boundary that III. STATES names for what is WRITTEN, and beside it. */
public final class WrittenStatesEdgesTest {
    private static final byte[] NONE = new byte[0];
    private static final byte[] NOISE = noise(41, 5000);

    public static void main(String[] args) {
        sizes();
        ids();
        windows();
        rowsOfCut();
        blocksOfOneByte();
        fewerOrNot();
        headsOfPlain();
        headsOfOneByte();
        oneLiteral();
        codedOrNot();
        oneStreamOrFour();
        longCodes();
        halvedCounts();
        halvedAgain();
        descriptions();
        weightsAllTheSame();
        literalLengths();
        matchLengths();
        distances();
        latest();
        least();
        farMatches();
        numbersOfSequences();
        modes();
        orders();
        greatestOrders();
        keptCodes();
        Checks.end("WrittenStatesEdgesTest");
    }

    static byte[] noise(int seed, int n) {
        byte[] b = new byte[n];
        new Random(seed).nextBytes(b);
        return b;
    }

    private static PackHouse due(String what, StatesModel m, byte[] row) {
        PackHouse x = new PackHouse();
        m.set(x);
        Checks.load(x, 0, row);
        return due(what, m, x, row);
    }

    private static PackHouse due(String what, StatesModel m, PackHouse x, byte[] row) {
        byte[] want = m.write(row);
        Checks.due(what, x.write(1, 0, 4), want.length);
        Checks.dueRow(what, x, 1, want);
        for (int i = 1; i <= 12; i++) {
            Checks.due(what + ": about " + i, x.about(i), m.about[i]);
        }
        Checks.due(what + ": strayed", x.strayed(0) + x.strayed(1), 0);
        Checks.due(what + ": back again", x.read(2, 1, 4, row.length), row.length);
        Checks.due(what + ": differ", x.differ(0, 2), -1);
        return x;
    }

    private static StatesModel flagged(int flags) {
        StatesModel m = new StatesModel();
        m.flags = flags;
        return m;
    }

    // The SIZE in the fewest bytes that can tell it, for each of the FLAGS.
    private static void sizes() {
        for (int flags = 0; flags < 16; flags++) {
            for (int n : new int[] {0, 1, 2, 254, 255, 256, 257, 511, 512, 1023}) {
                boolean single = (flags & 4) != 0;
                PackHouse x = due(n + " bytes, FLAGS " + flags, flagged(flags), Checks.part(NOISE, 0, n));
                int told = single || (flags & 2) != 0 ? n < 256 ? single ? 1 : 4 : 2 : 0;
                Checks.due("bytes in all", x.size(1), 5 + (single ? 0 : 1) + told + 3 + n + (flags & 1) * 4);
                Checks.due("HEAD", x.byteAt(1, 4), (told == 4 ? 128 : told == 2 ? 64 : 0) + (single ? 32 : 0)
                    + (flags & 1) * 4);
                Checks.due("WINDOW", x.about(17), single ? n : 65536);
            }
        }
    }

    private static void ids() {
        int[] all = {0, 1, 2, 254, 255, 256, 257, 65534, 65535, 65536, 65537, Integer.MAX_VALUE, Integer.MIN_VALUE, -1};
        byte[] said = Checks.text("what is said twice is said once, what is said once is not");
        for (int id : all) {
            for (int flags : new int[] {0, 8, 12}) {
                StatesModel m = flagged(flags);
                m.newId = id;
                PackHouse x = new PackHouse();
                m.set(x);
                Checks.load(x, 3, said);
                byte[] made = m.made(said);
                Checks.due("made", x.write(3, 3, 5), made.length);
                Checks.dueRow("made", x, 3, made);
                Checks.due("learn", x.learn(3), said.length);
                Checks.due("its ID", x.about(20), id);
                m.learnMade(said);
                byte[] row = Checks.text("what is not said");
                Checks.load(x, 0, row);
                due("ID " + id + ", FLAGS " + flags, m, x, row);
                int g = flags == 0 || id == 0 ? 0 : id > 0 && id < 256 ? 1 : id > 0 && id < 65536 ? 2 : 3;
                Checks.due("how it is told", x.byteAt(1, 4) & 3, g);
            }
        }
    }

    private static void windows() {
        for (int e = 0; e <= 11; e++) {
            StatesModel m = flagged(0);
            m.e = e;
            PackHouse x = due("E " + e, m, Checks.text("abc"));
            Checks.due("its byte", x.byteAt(1, 5), 8 * e);
            Checks.due("WINDOW", x.about(17), 1 << 10 + e);
        }
    }

    // Rows of CUT bytes, but at most MOST OF A BLOCK: here a WINDOW of 1024, or the SIZE.
    private static void rowsOfCut() {
        int[][] ways = {{0, 65536, 1}, {1, 1, 1}, {2, 1, 2}, {9, 3, 3}, {10, 3, 4}, {11, 3, 4}, {12, 3, 4}, {9, 9, 1},
            {9, 8, 2}, {9, 10, 1}, {1023, 65536, 1}, {1024, 65536, 1}, {1025, 65536, 2}, {2047, 65536, 2}, {2048, 65536, 2},
            {2049, 65536, 3}, {1025, 1024, 2}, {1025, 1023, 2}, {2047, 1023, 3}, {1025, 1025, 2}, {2046, 1023, 2}};
        for (int[] way : ways) {
            StatesModel m = flagged(0);
            m.e = 0;
            m.cut = way[1];
            byte[] row = Checks.part(NOISE, 0, way[0]);
            PackHouse x = due(way[0] + " bytes, CUT " + way[1], m, row);
            Checks.due("blocks written", x.about(1) + x.about(2) + x.about(3), way[2]);
            Checks.due("blocks read", x.about(14), way[2]);
            Checks.due("BOUND", x.bound(4, way[0]), 22 + 3 * way[2] + way[0]);
            m.flags = 4;
            PackHouse y = due(way[0] + " bytes, SINGLE, CUT " + way[1], m, row);
            Checks.due("blocks", y.about(1) + y.about(2) + y.about(3),
                way[0] == 0 ? 1 : (way[0] + way[1] - 1) / way[1]);
        }
        StatesModel m = flagged(0);
        m.e = 1;
        Checks.due("a WINDOW of 2048", due("2048", m, Checks.part(NOISE, 0, 2048)).about(1), 1);
        Checks.due("one more", due("2049", m, Checks.part(NOISE, 0, 2049)).about(2), 1);
    }

    private static void blocksOfOneByte() {
        for (int n : new int[] {1, 2, 3, 40}) {
            byte[] row = Checks.same(200, n);
            Checks.due("all the same", due(n + " alike", flagged(0), row).about(2), 1);
            for (int at = 0; at < n && n > 1; at += Math.max(1, n - 1)) {
                Checks.due("but one", due("one other", flagged(0), Checks.with(row, at, 201)).about(2), 0);
            }
        }
        PackHouse x = due("no bytes", flagged(0), NONE);
        Checks.due("kind 0", 10 * x.about(1) + x.about(2), 10);
        StatesModel m = flagged(0);
        m.cut = 4;
        PackHouse y = due("by turns", m, Checks.text("aaaabbbbabbbaaaacccca"));
        Checks.due("kind 1", 10 * y.about(1) + y.about(2), 15);
    }

    // Kind 2 if that has fewer bytes than the row: one fewer, as many, one more.
    private static void fewerOrNot() {
        boolean[] seen = new boolean[3];
        Random random = new Random(42);
        for (int turn = 0; turn < 400; turn++) {
            int n = 12 + random.nextInt(30);
            byte[] row = Checks.join(Checks.part(NOISE, turn, turn + n), Checks.part(NOISE, turn, turn + 4 + random.nextInt(8)));
            StatesModel m = flagged(0);
            m.write(row);
            int more = m.packedSize - row.length;
            if (more >= -1 && more <= 1 && !seen[more + 1]) {
                seen[more + 1] = true;
                PackHouse x = due(more + " bytes more", m, row);
                Checks.due("kind 2", x.about(3), more < 0 ? 1 : 0);
                Checks.due("kind 0", x.about(1), more < 0 ? 0 : 1);
            }
        }
        Checks.due("all were seen", seen[0] && seen[1] && seen[2], true);
    }

    // n literals that no code makes shorter, and a match that is worth it.
    private static void headsOfPlain() {
        for (int n : new int[] {30, 31, 32, 33, 4095, 4096, 4097}) {
            byte[] row = Checks.join(Checks.part(NOISE, 0, n), Checks.part(NOISE, 3, 29));
            PackHouse x = due(n + " literals", flagged(0), row);
            Checks.due("with k 0", x.about(5), 1);
            int head = n < 32 ? 8 * n : n < 4096 ? (16 * n | 4) & 255 : (16 * n | 12) & 255;
            Checks.due("h", x.byteAt(1, 9), head);
            Checks.due("the first literal", x.byteAt(1, n < 32 ? 10 : n < 4096 ? 11 : 12), NOISE[0] & 255);
        }
    }

    // A dictionary of zeros and pairs makes all but the same literal a match.
    private static void headsOfOneByte() {
        for (int n : new int[] {2, 3, 31, 32, 33, 60}) {
            byte[] said = Checks.part(NOISE, 0, 4 * n + 60);
            byte[] row = {};
            for (int i = 0; i < n; i++) {
                row = Checks.join(row, Checks.part(said, 4 * i, 4 * i + 3), Checks.bytes(said[4 * i + 3] == 7 ? 8 : 7));
            }
            row = Checks.join(row, Checks.part(said, 4 * n, 4 * n + 50));
            StatesModel m = flagged(0);
            m.least = 3;
            m.content = said;
            PackHouse x = new PackHouse();
            m.set(x);
            Checks.load(x, 3, said);
            x.learn(3);
            Checks.load(x, 0, row);
            due(n + " literals that are the same", m, x, row);
            Checks.due("literals", m.literalsFound().length, n);
            Checks.due("with k 1", x.about(6), 1);
            Checks.due("h", x.byteAt(1, 9), n < 32 ? 8 * n + 1 : 16 * n + 5 & 255);
        }
    }

    // One literal: plain and one byte have as many bytes, and plain comes first; none is plain.
    private static void oneLiteral() {
        for (int n = 0; n < 3; n++) {
            StatesModel m = flagged(0);
            byte[] said = Checks.part(NOISE, 0, 100);
            m.content = said;
            byte[] row = Checks.join(Checks.part(said, 0, 30), Checks.same(said[30] + 1, n), Checks.part(said, 50, 99));
            PackHouse x = new PackHouse();
            m.set(x);
            Checks.load(x, 3, said);
            x.learn(3);
            Checks.load(x, 0, row);
            due(n + " literals", m, x, row);
            Checks.due("literals", m.literalsFound().length, n);
            Checks.due("with k 0", x.about(5), n < 2 ? 1 : 0);
            Checks.due("with k 1", x.about(6), n < 2 ? 0 : 1);
        }
    }

    private static byte[] skewed(Random random, int n, int letters) {
        byte[] b = new byte[n];
        int few = 1 + random.nextInt(letters);
        for (int i = 0; i < n; i++) {
            b[i] = (byte) (random.nextInt(4) == 0 ? random.nextInt(letters) : Math.min(random.nextInt(few), random.nextInt(few)));
        }
        return b;
    }

    // Rows in which two ways of LITERALS have as many bytes, one less, one more: plain, k 3, k 2 in this order.
    private static void codedOrNot() {
        int[][] ways = {{0, 2, 3}, {0, 3, 2}, {3, 2, 0}};
        boolean[][] seen = new boolean[3][3];
        Random random = new Random(43);
        for (int turn = 0; turn < 8000; turn++) {
            StatesModel m = flagged(0);
            m.least = 8;
            int letters = 2 + random.nextInt(24);
            // The match at the second row's end makes it kind 2 in any case.
            byte[] first = Checks.join(skewed(random, 150, letters), Checks.part(NOISE, 0, 50));
            byte[] second = Checks.join(skewed(random, 20 + random.nextInt(130), letters), Checks.part(NOISE, 0, 50));
            m.cut = 200;
            byte[] row = Checks.join(first, second);
            m.write(row);
            for (int i = 0; i < 3 && m.about[3] == 2; i++) {
                int one = m.literalSizes[ways[i][0]];
                int other = m.literalSizes[ways[i][1]];
                int third = m.literalSizes[ways[i][2]];
                int more = other - one;
                boolean least = third == 0 || third > Math.min(one, other);
                if (one > 0 && other > 0 && least && Math.abs(more) < 2 && !seen[i][more + 1]) {
                    seen[i][more + 1] = true;
                    due("k " + ways[i][0] + " or " + ways[i][1] + ", " + more + " more", m, row);
                }
            }
        }
        for (int i = 0; i < 3; i++) {
            for (int more = 0; more < 3; more++) {
                Checks.due("k " + ways[i][0] + " or " + ways[i][1] + ", " + (more - 1) + " more, was seen", seen[i][more],
                    true);
            }
        }
    }

    // 16,384 bytes of four kinds of which each seven stand there once: all are literals when LEAST is 8.
    static byte[] unlike() {
        byte[] b = new byte[16384];
        boolean[] seen = new boolean[16384];
        int last = 0;
        seen[0] = true;
        for (int i = 7; i < b.length; i++) {
            int v = 3;
            while (v > 0 && seen[(last << 2 | v) & 16383]) {
                v--;
            }
            b[i] = (byte) v;
            last = (last << 2 | v) & 16383;
            seen[last] = true;
        }
        return b;
    }

    // A row of so many bytes cannot be given in 512 calls: row 3 becomes them by a frame that stands for them.
    private static PackHouse withUnlike(StatesModel m) {
        PackHouse x = new PackHouse();
        m.set(x);
        Checks.load(x, 1, States.frameOf(unlike()));
        Checks.due("read", x.read(3, 1, 4, 65536), 16384);
        return x;
    }

    private static void oneStreamOrFour() {
        byte[] all = unlike();
        for (int n : new int[] {1022, 1023, 1024, 1025, 1026, 1027, 1028, 4096, 16383, 16384}) {
            StatesModel m = flagged(0);
            m.least = 8;
            PackHouse x = withUnlike(m);
            x.join(0, 3, 16384 - n, 16384);
            due(n + " literals", m, x, Checks.part(all, 16384 - n, 16384));
            Checks.due("with k 2", x.about(7), 1);
            Checks.due("l", x.byteAt(1, 9) >> 2 & 3, n < 1024 ? 0 : n < 16384 ? 2 : 3);
        }
    }

    // Literals whose counts grow as sums of the two before: of 12 kinds the longest code has 11 bits, of 13 it would have 12.
    private static void longCodes() {
        for (int kinds = 11; kinds <= 14; kinds++) {
            int[] counts = new int[kinds];
            int n = 0;
            for (int i = 0; i < kinds; i++) {
                counts[i] = i < 2 ? 1 : counts[i - 1] + counts[i - 2];
                n += counts[i];
            }
            byte[] row = new byte[n];
            int at = 0;
            for (int i = 0; i < kinds; i++) {
                for (int k = 0; k < counts[i]; k++) {
                    row[at++] = (byte) (65 + i);
                }
            }
            StatesModel m = flagged(0);
            m.least = 8;
            Random random = new Random(44);
            // Others again and again, until no eight bytes come twice.
            for (int turn = 0; turn < 200 && (turn == 0 || m.sequencesFound() > 0); turn++) {
                for (int i = n - 1; i > 0; i--) {
                    int k = random.nextInt(i + 1);
                    byte v = row[i];
                    row[i] = row[k];
                    row[k] = v;
                }
                m.write(row);
            }
            Checks.due("all are literals", m.sequencesFound(), 0);
            PackHouse x = due(kinds + " kinds of literals", m, row);
            Checks.due("with k 2", x.about(7), 1);
            int[] all = new int[256];
            System.arraycopy(counts, 0, all, 65, kinds);
            int longest = 0;
            for (int length : States.lengthsByCounts(all, 99)) {
                longest = Math.max(longest, length);
            }
            Checks.due("the longest code that would be", longest, kinds - 1);
        }
    }

    // Literals of any counts, with three bytes of the DICTIONARY's behind each, which no other has: codes of 11 bits and
    // more, whose counts are halved.
    private static void halvedCounts() {
        Random random = new Random(55);
        int[] times = new int[3];
        for (int turn = 0; turn < 4000; turn++) {
            int kinds = turn < 3 ? 12 + turn : 12 + turn % 3;
            int[] counts = new int[256];
            double grown = 1;
            int n = 0;
            for (int i = 0; i < kinds; i++) {
                boolean sums = turn < 3 && i > 1;
                counts[3 * i] = sums ? counts[3 * i - 3] + counts[3 * i - 6] : (int) grown;
                grown *= turn < 3 ? 1 : 1.55 + random.nextInt(5) / 10.0;
                n += counts[3 * i];
            }
            if (n > 1000 || times[halvings(counts)] > 5) {
                continue;
            }
            times[halvings(counts)]++;
            byte[] said = noise(80 + turn, 3 * n);
            byte[] row = {};
            for (int i = 0; i < 256; i++) {
                for (int k = 0; k < counts[i]; k++) {
                    row = Checks.join(row, Checks.bytes(i), Checks.part(said, 3 * n - 3, 3 * n));
                    n--;
                }
            }
            StatesModel m = flagged(0);
            m.least = 3;
            m.content = said;
            PackHouse x = new PackHouse();
            m.set(x);
            Checks.load(x, 3, said);
            x.learn(3);
            Checks.load(x, 0, row);
            due("counts, turn " + turn, m, x, row);
            int found = 0;
            for (byte b : m.literalsFound()) {
                found += counts[b & 255] > 0 ? 1 : 0;
            }
            Checks.due("most of them are literals", 100 * found > 95 * said.length / 3, true);
        }
        Checks.due("halved and not", times[0] > 2 && times[1] > 5, true);
    }

    // Counts that grow by two, of 8,192 literals: halved more than once. Hardly any eight bytes come twice.
    private static void halvedAgain() {
        int most = 0;
        for (int turn = 0; turn < 4; turn++) {
            Random random = new Random(95 + turn);
            int[] left = new int[14];
            for (int i = 0; i < 14; i++) {
                left[i] = i == 0 ? 1 : 1 << i - 1;
            }
            byte[] row = new byte[8192];
            java.util.Set<String> seen = new java.util.HashSet<>();
            String last = "";
            for (int at = 0; at < row.length; at++) {
                int v = pick(random, left, row.length - at);
                for (int i = 0; i < 40 && seen.contains(last + (char) v); i++) {
                    v = pick(random, left, row.length - at);
                }
                left[v]--;
                row[at] = (byte) (3 * v);
                last += (char) v;
                if (last.length() == 8) {
                    seen.add(last);
                    last = last.substring(1);
                }
            }
            StatesModel m = flagged(0);
            m.least = 8;
            PackHouse x = new PackHouse();
            m.set(x);
            Checks.load(x, 1, States.frameOf(row));
            Checks.due("read", x.read(0, 1, 4, 65536), row.length);
            due("many counts, turn " + turn, m, x, row);
            int[] found = new int[256];
            for (byte b : m.literalsFound()) {
                found[b & 255]++;
            }
            most = Math.max(most, halvings(found));
        }
        Checks.due("halved more than once", most > 1, true);
    }

    // One of what is left, all alike.
    private static int pick(Random random, int[] left, int all) {
        int n = random.nextInt(all);
        int v = 0;
        while (n >= left[v]) {
            n -= left[v++];
        }
        return v;
    }

    // How often counts are halved until no code is longer than 11.
    private static int halvings(int[] counts) {
        int[] half = counts.clone();
        int times = 0;
        while (java.util.Arrays.stream(States.lengthsByCounts(half, 99)).max().getAsInt() > 11) {
            for (int i = 0; i < half.length; i++) {
                half[i] = (half[i] + 1) / 2;
            }
            times++;
        }
        return times;
    }

    // Symbols 0 .. k - 1 of the same length and the symbol k of another: k at most 128 can be described, 192 cannot.
    private static void weightsAllTheSame() {
        for (int k : new int[] {64, 96, 112, 120, 124, 126, 127, 128, 192, 224}) {
            int most = 1;
            while (most < k) {
                most *= 2;
            }
            // k symbols of count 1, and one that fills up what lacks to a power of two.
            int fill = most == k ? k : most - k;
            byte[] row = new byte[k + fill];
            int at = 0;
            for (int i = 0; i < k; i++) {
                row[at++] = (byte) i;
                for (int j = i * fill / k; j < (i + 1) * fill / k; j++) {
                    row[at++] = (byte) k;
                }
            }
            StatesModel m = flagged(0);
            m.least = 8;
            byte[] all = Checks.join(row, Checks.part(row, 0, 60));
            PackHouse x = due("k " + k, m, all);
            int[] counts = new int[256];
            for (byte b : row) {
                counts[b & 255]++;
            }
            Checks.due("described", States.description(States.lengthsByCounts(counts, 11)) != null, k <= 128);
            Checks.due("kind 2", x.about(3), 1);
        }
    }

    private static byte[] ofKinds(Random random, int n, int highest, int kinds) {
        byte[] row = new byte[n];
        for (int i = 0; i < n; i++) {
            int v = Math.min(random.nextInt(kinds), random.nextInt(kinds));
            row[i] = (byte) (highest - v);
        }
        row[0] = (byte) highest;
        return row;
    }

    // The highest symbol 1, 2, .. 127, 128, 129, .. 255; DIRECT, BY STATES of both orders, as many bytes, one more, one less.
    private static void descriptions() {
        Random random = new Random(45);
        boolean[] seen = new boolean[6];
        for (int turn = 0; turn < 900; turn++) {
            int[] tops = {1, 2, 3, 4, 126, 127, 128, 129, 130, 254, 255, 20, 40, 60, 90};
            int highest = tops[turn % tops.length];
            StatesModel m = flagged(0);
            m.least = 8;
            byte[] row = ofKinds(random, 150 + random.nextInt(500), highest, 2 + random.nextInt(highest));
            m.write(row);
            boolean isNew = turn < tops.length;
            if (m.literalsFound().length > 0) {
                int[] counts = new int[256];
                for (byte b : m.literalsFound()) {
                    counts[b & 255]++;
                }
                isNew |= note(seen, States.weights(States.lengthsByCounts(counts, 11)));
            }
            if (isNew) {
                due("highest " + highest, m, row);
            }
        }
        for (int i = 0; i < seen.length; i++) {
            Checks.due("kind of description " + i + " was seen", seen[i], true);
        }
    }

    private static boolean note(boolean[] seen, int[] weights) {
        int k = 255;
        while (weights[k] == 0) {
            k--;
        }
        boolean alike = true;
        for (int i = 1; i < k; i++) {
            alike &= weights[i] == weights[0];
        }
        if (k < 2 || alike) {
            return false;
        }
        int five = States.byStates(weights, k, 5).length;
        int six = States.byStates(weights, k, 6).length;
        int direct = (k + 1) / 2;
        int less = Math.min(five, six);
        int kind = k > 128 ? five == six ? 5 : -1 : direct == less ? 0 : direct == less + 1 ? 1 : direct == less - 1 ? 2
            : five == six && less < direct ? 3 : six < five && six < direct ? 4 : -1;
        boolean isNew = kind >= 0 && !seen[kind];
        seen[Math.max(0, kind)] |= kind >= 0;
        return isNew;
    }

    // Each literal length at which a symbol begins, and the one before.
    private static void literalLengths() {
        byte[] all = unlike();
        for (int s = 1; s <= 32; s++) {
            for (int more = -1; more <= 1; more++) {
                int n = States.literalBase(s) + more;
                if (n >= 8) {
                    StatesModel m = flagged(0);
                    m.least = 8;
                    PackHouse x = withUnlike(m);
                    x.join(0, 3, 0, n);
                    x.join(0, 3, 0, 8);
                    x.again(0, 1, 20);
                    byte[] row = Checks.join(Checks.part(all, 0, n), Checks.part(all, 0, 8), Checks.same(all[7], 20));
                    due("literal length " + n, m, x, row);
                    Checks.due("kind 2", x.about(3), 1);
                }
            }
        }
        // Fewer than eight, behind a long match.
        for (int n = 0; n <= 8; n++) {
            byte[] row = Checks.join(Checks.part(NOISE, 0, 30), Checks.part(NOISE, 5, 28), Checks.part(NOISE, 100, 100 + n),
                Checks.part(NOISE, 8, 26));
            PackHouse x = due("literal length " + n, flagged(0), row);
            Checks.due("sequences", x.about(4), 2);
        }
    }

    private static void matchLengths() {
        for (int s = 0; s <= 49; s++) {
            for (int more = -1; more <= 1; more++) {
                int n = States.matchBase(s) + more;
                if (n >= 3) {
                    StatesModel m = flagged(0);
                    m.least = 3;
                    // A run of one byte, a long one ahead of it.
                    byte[] row = Checks.join(Checks.part(NOISE, 0, 10), Checks.same(NOISE[9], 60), Checks.bytes(NOISE[9] + 1),
                        Checks.same(NOISE[9] + 1, n), Checks.part(NOISE, 20, 22));
                    PackHouse x = due("match length " + n, m, row);
                    Checks.due("sequences", x.about(4), 2);
                }
            }
        }
    }

    // v is the distance and 3: each power of two, one less and one more.
    private static void distances() {
        for (int k = 2; k <= 14; k++) {
            for (int more = -1; more <= 1; more++) {
                int d = (1 << k) - 3 + more;
                if (d >= 3 && d + 3 <= 16384) {
                    StatesModel m = flagged(0);
                    m.least = 3;
                    byte[] said = Checks.bytes(1, 2, 3);
                    int zeros = d - 3;
                    byte[] row = Checks.join(said, Checks.same(0, zeros), said);
                    if (d < 100) {
                        row = Checks.join(Checks.same(9, 50), row);
                    }
                    PackHouse x = due("distance " + d, m, row);
                    Checks.due("kind 2", x.about(3), 1);
                }
            }
        }
        for (int d = 1; d <= 12; d++) {
            byte[] row = Checks.part(NOISE, 0, d);
            while (row.length < 60) {
                row = Checks.join(row, row);
            }
            PackHouse x = due("distance " + d + " again and again", flagged(0), row);
            Checks.due("one sequence", x.about(4), d == 1 ? 0 : 1);
        }
    }

    // Each of the LATEST, behind literals and behind none, as often as it can be.
    private static void latest() {
        Random random = new Random(46);
        StatesModel m = flagged(0);
        for (int turn = 0; turn < 60; turn++) {
            byte[] row = Checks.part(NOISE, 0, 20);
            int[] last = {3, 5, 7};
            for (int i = 0; i < 20; i++) {
                int d = random.nextInt(4) < 3 ? last[random.nextInt(3)] - random.nextInt(2) : 2 + random.nextInt(15);
                d = Math.max(1, d);
                last = new int[] {d, last[0], last[1]};
                row = Checks.join(row, random.nextBoolean() ? Checks.bytes(random.nextInt()) : NONE);
                for (int k = 4 + random.nextInt(6); k > 0; k--) {
                    row = Checks.join(row, Checks.bytes(row[row.length - d]));
                }
            }
            m.way = turn % 4;
            m.least = 3 + turn % 3;
            due("turn " + turn, m, row);
        }
        for (int i = 0; i < 8; i++) {
            Checks.due("v " + (i % 4 + 1) + (i < 4 ? " behind literals" : " behind none") + " was told", m.told[i] > 0, true);
        }
    }

    private static void least() {
        for (int least = 3; least <= 8; least++) {
            for (int n = least - 1; n <= least + 1; n++) {
                for (int way = 0; way < 4; way++) {
                    StatesModel m = flagged(0);
                    m.least = least;
                    m.way = way;
                    byte[] row = Checks.join(Checks.part(NOISE, 0, 20), Checks.same(NOISE[19], 30), Checks.part(NOISE, 5, 5 + n),
                        Checks.bytes(NOISE[5 + n] + 1));
                    PackHouse x = due("LEAST " + least + ", " + n + " again", m, row);
                    Checks.due("sequences", x.about(4), n < least ? 1 : 2);
                    byte[] end = Checks.part(row, 0, row.length - 1);
                    Checks.due("at the end", due("at the end", m, end).about(4), n < least ? 1 : 2);
                }
            }
        }
    }

    // A match as far back as the WINDOW, and one further; so with a DICTIONARY, and SINGLE.
    private static void farMatches() {
        for (int e = 0; e < 4; e++) {
            for (int more = -1; more <= 1; more++) {
                StatesModel m = flagged(0);
                m.e = e;
                int d = (1 << 10 + e) + more;
                byte[] row = Checks.join(Checks.part(NOISE, 0, 12), Checks.same(0, d - 12), Checks.part(NOISE, 0, 12));
                due("WINDOW " + (1 << 10 + e) + ", " + d + " back", m, row);
                Checks.due("literals of the last block", m.literalsFound().length >= 12, more == 1);
                m.flags = 4;
                due("SINGLE, " + d + " back", m, row);
                Checks.due("literals", m.literalsFound().length < 24, true);
            }
        }
        for (int n = 39; n <= 41; n++) {
            byte[] said = Checks.part(NOISE, 0, 50);
            StatesModel m = flagged(4);
            m.content = said;
            // The row's first 20 bytes are those 40 back: that is SIZE, or one more or less.
            byte[] row = Checks.join(Checks.part(said, 10, 30), Checks.part(NOISE, 100, 80 + n));
            PackHouse x = new PackHouse();
            m.set(x);
            Checks.load(x, 3, said);
            x.learn(3);
            Checks.load(x, 0, row);
            due("SIZE " + n + ", 40 back", m, x, row);
            Checks.due("sequences", m.sequencesFound(), n < 40 ? 0 : 1);
        }
    }

    private static void numbersOfSequences() {
        for (int n : new int[] {1, 2, 126, 127, 128, 129, 255, 256, 257}) {
            byte[] row = Checks.part(NOISE, 0, 20);
            for (int i = 0; i < n; i++) {
                row = Checks.join(row, Checks.bytes(i, 255 - i + i / 256), Checks.part(NOISE, 0, 10));
            }
            row = Checks.join(row, Checks.same(0, 1));
            StatesModel m = flagged(0);
            PackHouse x = due(n + " sequences", m, row);
            Checks.due("sequences", x.about(4), n);
            Checks.due("sequences done", x.about(15), n);
        }
    }

    // Rows in which two modes of a table cost as many bits, one less, one more.
    private static void modes() {
        int[][] pairs = {{0, 1}, {0, 2}, {0, 3}, {1, 2}, {1, 3}, {2, 3}};
        boolean[][] seen = new boolean[6][3];
        Random random = new Random(53);
        // Two distances of symbol 6: 5 and 4 bits by the known share.
        StatesModel two = flagged(0);
        due("two of a symbol", two, Checks.join(Checks.part(NOISE, 0, 100), Checks.part(NOISE, 0, 10),
            Checks.bytes(NOISE[10] + 1), Checks.part(NOISE, 30, 40)));
        Checks.due("one less", noteModes(two, pairs, seen), true);
        for (int turn = 0; turn < 4000; turn++) {
            StatesModel m = flagged(0);
            m.cut = 100 + random.nextInt(200);
            byte[] row = Checks.part(NOISE, 0, turn % 2 == 0 ? 12 : 90);
            int lengths = 1 + random.nextInt(8);
            int far = 1 + random.nextInt(3);
            int between = random.nextInt(4);
            int back = turn % 2 == 0 ? 12 : 70 + random.nextInt(20);
            int size = turn % 4 < 2 ? 2 * m.cut : m.cut + 40 + random.nextInt(80);
            while (row.length < size) {
                byte[] lits = new byte[random.nextInt(1 + between)];
                random.nextBytes(lits);
                row = Checks.join(row, lits);
                int d = back - random.nextInt(far);
                for (int k = 5 + random.nextInt(lengths); k > 0; k--) {
                    row = Checks.join(row, Checks.bytes(row[row.length - d]));
                }
            }
            row = Checks.part(row, 0, size);
            m.write(row);
            if (m.about[3] == 2 && m.sequencesFound() > 0 && noteModes(m, pairs, seen)) {
                due("modes, turn " + turn, m, row);
            }
        }
        for (int i = 0; i < pairs.length; i++) {
            for (int more = 0; more < 3; more++) {
                // One symbol by the known share costs 6 bits at most or 9 at least, and a share takes two bytes.
                boolean may = i != 3 && (i > 0 || more == 0);
                Checks.due("modes " + pairs[i][0] + " and " + pairs[i][1] + ", " + (more - 1) + " more, were seen",
                    seen[i][more], may);
            }
        }
    }

    private static boolean noteModes(StatesModel m, int[][] pairs, boolean[][] seen) {
        boolean isNew = false;
        for (int t = 0; t < 3; t++) {
            for (int i = 0; i < pairs.length; i++) {
                int one = m.costs[t][pairs[i][0]];
                int other = m.costs[t][pairs[i][1]];
                int least = Math.min(one, other);
                for (int k = 0; k < 4; k++) {
                    boolean third = k != pairs[i][0] && k != pairs[i][1] && m.costs[t][k] >= 0;
                    least = third && m.costs[t][k] <= least ? -1 : least;
                }
                if (one >= 0 && other >= 0 && least >= 0 && Math.abs(other - one) < 2 && !seen[i][other - one + 1]) {
                    seen[i][other - one + 1] = true;
                    isNew = true;
                }
            }
        }
        return isNew;
    }

    // Mode 2 by each order there is, and the least one of two that cost as many bits.
    private static void orders() {
        boolean[] seen = new boolean[20];
        Random random = new Random(48);
        for (int turn = 0; turn < 260; turn++) {
            StatesModel m = flagged(0);
            m.least = 3;
            byte[] row = Checks.part(NOISE, 0, 60);
            int n = 20 + random.nextInt(turn % 3 == 0 ? 700 : 60);
            int spread = 1 + random.nextInt(n > 300 ? 8 : 30);
            for (int i = 0; i < n; i++) {
                int from = random.nextInt(5);
                int length = 4 + random.nextInt(spread) * random.nextInt(spread) / spread;
                int lits = random.nextInt(1 + random.nextInt(4));
                byte[] other = Checks.part(NOISE, 1000 + 5 * i, 1000 + 5 * i + lits);
                row = Checks.join(row, other, Checks.part(NOISE, from, from + length));
            }
            if (row.length > 7000) {
                continue;
            }
            m.write(row);
            boolean isNew = false;
            for (int t = 0; t < 3 && m.about[3] == 1; t++) {
                int best = bestOrder(m, t);
                int many = 0;
                for (int order = 5; order <= 9; order++) {
                    many += m.orderCosts[t][order] == m.orderCosts[t][best] ? 1 : 0;
                }
                boolean used = m.costs[t][2] > 0 && m.costs[t][2] < m.costs[t][0] || m.costs[t][0] < 0;
                int kind = many > 1 ? 10 + best : best;
                isNew |= used && !seen[kind];
                seen[kind] |= used;
            }
            if (isNew) {
                due("orders, turn " + turn, m, row);
            }
        }
        for (int order = 5; order <= 8; order++) {
            Checks.due("order " + order + " was the best", seen[order], true);
        }
        Checks.due("two orders cost as much", seen[15] || seen[16] || seen[17], true);
    }

    // So many sequences that the greatest orders are the best, given as a block of tokens: else there are too many calls.
    private static void greatestOrders() {
        boolean[] seen = new boolean[3];
        for (int turn = 0; turn < 6; turn++) {
            Random random = new Random(60 + turn);
            byte[] row = noise(70 + turn, 300);
            byte[] literals = row;
            byte[] tokens = {};
            while (tokens.length < 7000) {
                int length = 4 + skew(random, turn % 3 == 0 ? 12 : 14);
                int far = 1 << 1 + (random.nextInt(100) < 40 + 10 * turn ? 3 : skew(random, 6));
                int distance = far + random.nextInt(far);
                tokens = Checks.join(tokens, TokenEdgesTest.sequence(literals, distance, length));
                row = Checks.join(row, copy(row, distance, length));
                literals = new byte[skew(random, turn % 2 == 0 ? 8 : 14)];
                random.nextBytes(literals);
                row = Checks.join(row, literals);
            }
            tokens = Checks.join(tokens, TokenEdgesTest.last(literals));
            PackHouse x = new PackHouse();
            StatesModel m = flagged(0);
            m.set(x);
            Checks.load(x, 1, tokens);
            Checks.due("read", x.read(0, 1, 0, 65536), row.length);
            due("many sequences, turn " + turn, m, x, row);
            byte[] made = m.made(row);
            Checks.due("made", x.write(1, 0, 5), made.length);
            Checks.dueRow("made", x, 1, made);
            for (int t = 0; t < 3; t++) {
                seen[t] |= bestOrder(m, t) == States.GREATEST[t];
            }
        }
        for (int t = 0; t < 3; t++) {
            Checks.due("the greatest order of table " + t + " was the best", seen[t], true);
        }
    }

    private static byte[] copy(byte[] row, int distance, int length) {
        byte[] b = new byte[length];
        for (int i = 0; i < length; i++) {
            b[i] = i < distance ? row[row.length - distance + i] : b[i - distance];
        }
        return b;
    }

    // The order of the least cost in mode 2, of the same the least one.
    private static int bestOrder(StatesModel m, int t) {
        int best = 0;
        for (int order = 5; order <= States.GREATEST[t]; order++) {
            int cost = m.orderCosts[t][order];
            best = cost > 0 && (best == 0 || cost < m.orderCosts[t][best]) ? order : best;
        }
        return best;
    }

    // 0 most often, then 1, and so on.
    private static int skew(Random random, int n) {
        int v = 0;
        while (v < n && random.nextInt(100) < 55) {
            v++;
        }
        return v;
    }

    // CODES, TABLES and LATEST change by a block of kind 2 alone: between two such ones stands one of kind 0 or 1.
    private static void keptCodes() {
        Random random = new Random(49);
        int kept = 0;
        for (int turn = 0; turn < 20; turn++) {
            StatesModel m = flagged(0);
            m.cut = 300;
            m.least = 5;
            byte[] first = ofKinds(random, 300, 90, 9);
            byte[] second = turn % 2 == 0 ? Checks.same(3, 300) : noise(turn, 300);
            byte[] third = ofKinds(random, 300, 90, 9);
            PackHouse x = due("turn " + turn, m, Checks.join(first, second, third));
            Checks.due("blocks", x.about(3) * 10 + x.about(1) + x.about(2), 21);
            kept += x.about(8);
        }
        Checks.due("CODES as they were", kept > 0, true);
    }
}
