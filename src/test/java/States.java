import java.util.ArrayList;
import java.util.Arrays;
import java.util.List;

/** III. STATES as the document says it, step by step and without any care for speed; what tests compare with. */
final class States {
    static final int[] GREATEST = {9, 8, 9};
    static final int[] LAST = {35, 31, 52};
    static final int[] ORDERS = {6, 5, 6};
    static final int[][] KNOWN = {
        points("4 3 2 2 2 2 2 2 2 2 2 2 2 1 1 1 2 2 2 2 2 2 2 2 2 3 2 1 1 1 1 1 -1 -1 -1 -1", 36),
        points("1 1 1 1 1 1 2 2 2 1 1 1 1 1 1 1 1 1 1 1 1 1 1 1 -1 -1 -1 -1 -1", 32),
        points("1 4 3 2 2 2 2 2 2 1 1 1 1 1 1 1 1 1 1 1 1 1 1 1 1 1 1 1 1 1 1 1 1 1 1 1 1 1 1 1 1 1 1 1 1 1"
            + " -1 -1 -1 -1 -1 -1 -1", 53)};

    private States() {
    }

    private static int[] points(String s, int n) {
        String[] words = s.split(" ");
        int[] p = new int[n];
        for (int i = 0; i < words.length; i++) {
            p[i] = Integer.parseInt(words[i]);
        }
        return p;
    }

    /** Bits one behind the other, the lowest of a number first. */
    static final class Bits {
        private final List<Boolean> all = new ArrayList<>();

        Bits add(long v, int n) {
            for (int i = 0; i < n; i++) {
                all.add((v >> i & 1) != 0);
            }
            return this;
        }

        byte[] bytes() {
            byte[] b = new byte[(all.size() + 7) / 8];
            for (int i = 0; i < all.size(); i++) {
                b[i / 8] |= (byte) (all.get(i) ? 1 << i % 8 : 0);
            }
            return b;
        }
    }

    static int highest(int v) {
        int k = 0;
        while (1L << k + 1 <= v) {
            k++;
        }
        return k;
    }

    /** A SHARE with its places. */
    static final class Share {
        final int order;
        final int[] points;
        final int[] symbolAt;
        final int[] bitsAt;
        final int[] baseAt;

        Share(int order, int[] points) {
            this.order = order;
            this.points = points.clone();
            int all = 1 << order;
            symbolAt = new int[all];
            bitsAt = new int[all];
            baseAt = new int[all];
            Arrays.fill(symbolAt, -1);
            int high = all - 1;
            for (int s = 0; s < points.length; s++) {
                if (points[s] < 0) {
                    symbolAt[high--] = s;
                }
            }
            int at = 0;
            for (int s = 0; s < points.length; s++) {
                for (int i = 0; i < points[s]; i++) {
                    symbolAt[at] = s;
                    do {
                        at = (at + all / 2 + all / 8 + 3) % all;
                    } while (at > high);
                }
            }
            for (int s = 0; s < points.length; s++) {
                int x = Math.abs(points[s]);
                for (int p = 0; p < all; p++) {
                    if (symbolAt[p] == s) {
                        bitsAt[p] = order - highest(x);
                        baseAt[p] = (x << bitsAt[p]) - all;
                        x++;
                    }
                }
            }
        }

        static Share alone(int symbol) {
            int[] p = new int[symbol + 1];
            p[symbol] = 1;
            return new Share(0, p);
        }

        static Share known(int i) {
            return new Share(ORDERS[i], KNOWN[i]);
        }

        boolean has(int[] row) {
            for (int s : row) {
                if (s >= points.length || points[s] == 0) {
                    return false;
                }
            }
            return true;
        }

        int lowest(int symbol) {
            int p = 0;
            while (symbolAt[p] != symbol) {
                p++;
            }
            return p;
        }

        // The place of a symbol from which a state follows.
        int before(int state, int symbol) {
            for (int p = 0; p < symbolAt.length; p++) {
                if (symbolAt[p] == symbol && state >= baseAt[p] && state < baseAt[p] + (1 << bitsAt[p])) {
                    return p;
                }
            }
            throw new IllegalStateException("no place");
        }

        int cost(int[] row) {
            int state = lowest(row[row.length - 1]);
            int bits = order;
            for (int i = row.length - 2; i >= 0; i--) {
                state = before(state, row[i]);
                bits += bitsAt[state];
            }
            return bits;
        }

        byte[] told() {
            Bits out = new Bits().add(order - 5, 4);
            int left = 1 << order;
            int s = 0;
            while (left > 0) {
                tellPoints(out, left, points[s]);
                left -= Math.abs(points[s]);
                if (points[s++] == 0) {
                    int zeros = 0;
                    while (points[s + zeros] == 0) {
                        zeros++;
                    }
                    s += zeros;
                    for (; zeros >= 3; zeros -= 3) {
                        out.add(3, 2);
                    }
                    out.add(zeros, 2);
                }
            }
            return out.bytes();
        }
    }

    // One symbol's points, left being what lacks.
    static void tellPoints(Bits out, int left, int points) {
        int k = highest(left + 1);
        int t = 1 << k;
        int m = 2 * t - 2 - left;
        int u = points + 1;
        if (u < m) {
            out.add(u, k);
        } else {
            out.add(u < t ? u : u + m, k + 1);
        }
    }

    static int[] byCounts(int[] counts, int order) {
        long total = 0;
        for (int c : counts) {
            total += c;
        }
        int[] p = new int[counts.length];
        int mass = 0;
        for (int s = 0; s < counts.length; s++) {
            long c = (long) counts[s] << order;
            p[s] = c == 0 ? 0 : c < total ? -1 : (int) (c / total);
            mass += Math.abs(p[s]);
        }
        List<Integer> inOrder = new ArrayList<>();
        for (int s = 0; s < counts.length; s++) {
            if (p[s] > 0) {
                inOrder.add(s);
            }
        }
        long n = total;
        inOrder.sort((a, b) -> Long.compare(((long) counts[b] << order) % n, ((long) counts[a] << order) % n));
        for (int i = 0; mass < 1 << order; i++, mass++) {
            p[inOrder.get(i % inOrder.size())]++;
        }
        for (; mass > 1 << order; mass--) {
            int most = 0;
            for (int s = 0; s < p.length; s++) {
                most = p[s] > p[most] ? s : most;
            }
            p[most]--;
        }
        return p;
    }

    static int[] lengthsByCounts(int[] given, int most) {
        int[] counts = given.clone();
        while (true) {
            int[] lengths = lengthsOnce(counts);
            if (Arrays.stream(lengths).max().getAsInt() <= most) {
                return lengths;
            }
            for (int i = 0; i < counts.length; i++) {
                counts[i] = (counts[i] + 1) / 2;
            }
        }
    }

    private static int[] lengthsOnce(int[] counts) {
        int[] lengths = new int[counts.length];
        List<List<Integer>> members = new ArrayList<>();
        List<Integer> sums = new ArrayList<>();
        for (int s = 0; s < counts.length; s++) {
            if (counts[s] > 0) {
                members.add(new ArrayList<>(List.of(s)));
                sums.add(counts[s]);
            }
        }
        while (sums.size() > 1) {
            List<Integer> both = new ArrayList<>();
            int sum = 0;
            for (int k = 0; k < 2; k++) {
                int least = 0;
                for (int i = 0; i < sums.size(); i++) {
                    least = sums.get(i) < sums.get(least) ? i : least;
                }
                sum += sums.remove(least);
                both.addAll(members.remove(least));
            }
            for (int s : both) {
                lengths[s]++;
            }
            sums.add(sum);
            members.add(both);
        }
        return lengths;
    }

    static int[] weights(int[] lengths) {
        int greatest = Arrays.stream(lengths).max().getAsInt();
        return Arrays.stream(lengths).map(l -> l == 0 ? 0 : greatest + 1 - l).toArray();
    }

    // The code of each symbol that has one.
    static int[] codes(int[] lengths) {
        int[] weights = weights(lengths);
        int[] codes = new int[lengths.length];
        int cell = 0;
        for (int w = 1; w <= 11; w++) {
            for (int s = 0; s < lengths.length; s++) {
                if (weights[s] == w) {
                    codes[s] = cell >> w - 1;
                    cell += 1 << w - 1;
                }
            }
        }
        return codes;
    }

    static byte[] direct(int[] weights, int k) {
        byte[] b = new byte[1 + (k + 1) / 2];
        b[0] = (byte) (127 + k);
        for (int i = 0; i < k; i++) {
            b[1 + i / 2] |= (byte) (weights[i] << (i % 2 == 0 ? 4 : 0));
        }
        return b;
    }

    // Without the byte that tells how many there are.
    static byte[] byStates(int[] weights, int k, int order) {
        int[] counts = new int[12];
        for (int i = 0; i < k; i++) {
            counts[weights[i]]++;
        }
        return byShare(weights, k, new Share(order, byCounts(counts, order)));
    }

    static byte[] byShare(int[] weights, int k, Share share) {
        Bits out = new Bits();
        int[] states = {share.lowest(weights[k - 1]), share.lowest(weights[k - 2])};
        for (int i = k - 3; i >= 0; i--) {
            int turn = (k - 3 - i) % 2;
            int place = share.before(states[turn], weights[i]);
            out.add(states[turn] - share.baseAt[place], share.bitsAt[place]);
            states[turn] = place;
        }
        // v_(k - 1), v_(k - 3), .. are the first's, the others the second's.
        int first = (k - 1) % 2 == 0 ? 0 : 1;
        out.add(states[1 - first], share.order).add(states[first], share.order).add(1, 1);
        return Checks.join(share.told(), out.bytes());
    }

    // null when there is none.
    static byte[] description(int[] lengths) {
        int k = lengths.length - 1;
        while (lengths[k] == 0) {
            k--;
        }
        int[] weights = weights(lengths);
        boolean unlike = false;
        for (int i = 1; i < k; i++) {
            unlike |= weights[i] != weights[0];
        }
        byte[] states = null;
        if (k >= 2 && unlike) {
            byte[] five = byStates(weights, k, 5);
            byte[] six = byStates(weights, k, 6);
            byte[] less = six.length < five.length ? six : five;
            states = less.length < 128 ? Checks.join(Checks.bytes(less.length), less) : null;
        }
        byte[] direct = k <= 128 ? direct(weights, k) : null;
        return direct != null && (states == null || direct.length <= states.length) ? direct : states;
    }

    static byte[] stream(byte[] row, int[] lengths) {
        int[] codes = codes(lengths);
        Bits out = new Bits();
        for (int i = row.length - 1; i >= 0; i--) {
            out.add(codes[row[i] & 255], lengths[row[i] & 255]);
        }
        return out.add(1, 1).bytes();
    }

    static byte[] fourStreams(byte[] row, int[] lengths) {
        int c = (row.length + 3) / 4;
        byte[] numbers = {};
        byte[] streams = {};
        for (int i = 0; i < 4; i++) {
            byte[] one = stream(Checks.part(row, i * c, i < 3 ? i * c + c : row.length), lengths);
            numbers = i < 3 ? Checks.join(numbers, Checks.number(one.length, 2)) : numbers;
            streams = Checks.join(streams, one);
        }
        return Checks.join(numbers, streams);
    }

    // LITERALS with k 2 or 3, told being their bytes.
    static byte[] coded(int k, int l, int n, byte[] told) {
        int width = l < 2 ? 10 : l == 2 ? 14 : 18;
        return Checks.join(new Bits().add(k, 2).add(l, 2).add(n, width).add(told.length, width).bytes(), told);
    }

    // LITERALS with k 0 or 1.
    static byte[] plain(int k, byte[] row) {
        int n = row.length;
        byte[] bytes = k == 0 ? row : Checks.part(row, 0, 1);
        byte[] head = n < 32 ? Checks.bytes(n << 3 | k) : n < 4096 ? Checks.number(n << 4 | 4 | k, 2)
            : Checks.number(n << 4 | 12 | k, 3);
        return Checks.join(head, bytes);
    }

    static byte[] blockHead(int kind, boolean last, int n) {
        return Checks.number(8L * n + 2 * kind + (last ? 1 : 0), 3);
    }

    // A frame that stands for a row of at least two kinds of bytes, all of them LITERALS by CODES: so rows that are too
    // long to be given in 512 calls can be read.
    static byte[] frameOf(byte[] row) {
        int[] counts = new int[256];
        for (byte b : row) {
            counts[b & 255]++;
        }
        int[] lengths = lengthsByCounts(counts, 11);
        byte[] told = Checks.join(description(lengths), fourStreams(row, lengths));
        byte[] block = Checks.join(coded(2, 3, row.length, told), Checks.bytes(0));
        return Checks.join(Checks.bytes(40, 181, 47, 253, 0, 80), blockHead(2, true, block.length), block);
    }

    // 0 .. 15, then as the document tells them.
    static int literalBase(int s) {
        int[] first = {16, 18, 20, 22, 24, 28, 32, 40, 48, 64};
        return s < 16 ? s : s < 26 ? first[s - 16] : 128 << s - 26;
    }

    static int literalBits(int s) {
        int[] first = {1, 1, 1, 1, 2, 2, 3, 3, 4, 6};
        return s < 16 ? 0 : s < 26 ? first[s - 16] : s - 26 + 7;
    }

    static int matchBase(int s) {
        int[] first = {35, 37, 39, 41, 43, 47, 51, 59, 67, 83, 99};
        return s < 32 ? s + 3 : s < 43 ? first[s - 32] : (128 << s - 43) + 3;
    }

    static int matchBits(int s) {
        int[] first = {1, 1, 1, 1, 2, 2, 3, 3, 4, 4, 5};
        return s < 32 ? 0 : s < 43 ? first[s - 32] : s - 43 + 7;
    }

    static int literalSymbol(int n) {
        int s = 35;
        while (literalBase(s) > n) {
            s--;
        }
        return s;
    }

    static int matchSymbol(int n) {
        int s = 52;
        while (matchBase(s) > n) {
            s--;
        }
        return s;
    }

    /** Sequences by their numbers: literal length, v of the distance, match length. */
    static final class Sequences {
        final List<int[]> all = new ArrayList<>();

        Sequences add(int literals, int v, int length) {
            all.add(new int[] {literals, v, length});
            return this;
        }

        int[] symbols(int table) {
            return all.stream().mapToInt(q -> table == 0 ? literalSymbol(q[0]) : table == 1 ? highest(q[1])
                : matchSymbol(q[2])).toArray();
        }

        private void additional(Bits out, int[] q) {
            int s = literalSymbol(q[0]);
            int m = matchSymbol(q[2]);
            out.add(q[0] - literalBase(s), literalBits(s)).add(q[2] - matchBase(m), matchBits(m));
            out.add(q[1] - (1L << highest(q[1])), highest(q[1]));
        }

        byte[] stream(Share... tables) {
            return bits(tables).add(1, 1).bytes();
        }

        // Without the END.
        Bits bits(Share... tables) {
            int[][] rows = {symbols(0), symbols(1), symbols(2)};
            int last = all.size() - 1;
            int[] states = new int[3];
            for (int t = 0; t < 3; t++) {
                states[t] = tables[t].lowest(rows[t][last]);
            }
            Bits out = new Bits();
            additional(out, all.get(last));
            for (int i = last - 1; i >= 0; i--) {
                for (int t : new int[] {1, 2, 0}) {
                    int place = tables[t].before(states[t], rows[t][i]);
                    out.add(states[t] - tables[t].baseAt[place], tables[t].bitsAt[place]);
                    states[t] = place;
                }
                additional(out, all.get(i));
            }
            for (int t : new int[] {2, 1, 0}) {
                out.add(states[t], tables[t].order);
            }
            return out;
        }

        byte[] number() {
            int n = all.size();
            return n < 128 ? Checks.bytes(n) : n < 32512 ? Checks.bytes(128 + n / 256, n)
                : Checks.join(Checks.bytes(255), Checks.number(n - 32512, 2));
        }
    }
}
