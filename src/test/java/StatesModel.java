import java.util.ArrayList;
import java.util.Arrays;
import java.util.List;

/** FORMATS 4 and 5 WRITTEN as the document says it, with the SETTINGS and the DICTIONARY that it is given. */
final class StatesModel {
    int way = 2;
    int least = 4;
    int cut = 65536;
    int flags = 3;
    int e = 6;
    int newId = 0;
    byte[] content = {};
    int id = 0;
    int[] codes = null;
    States.Share[] tables = new States.Share[3];
    int[] latest = {1, 4, 8};
    final int[] about = new int[13];

    // Of the latest block that was packed: bytes in all, bytes of each way of LITERALS, bits of each table's modes
    // and of mode 2's orders; 0 for what is not there. What v each sequence had is in told: those behind literals,
    // then those behind none.
    int packedSize;
    final int[] literalSizes = new int[4];
    final int[][] costs = new int[3][4];
    final int[][] orderCosts = new int[3][10];
    final int[] told = new int[8];

    private byte[] data;
    private int window;
    private States.Sequences sequences;
    private byte[] literals;
    private int wayOfLiterals;
    private final int[] modes = new int[3];

    // Has x the same SETTINGS (but those of tokens and tags).
    void set(PackHouse x) {
        x.set(0, way);
        x.set(1, least);
        x.set(2, cut);
        x.set(7, flags);
        x.set(8, e);
        x.set(9, newId);
    }

    byte[] write(byte[] row) {
        Arrays.fill(about, 0);
        int[] codesNow = codes;
        States.Share[] tablesNow = tables.clone();
        int[] latestNow = latest.clone();
        int[] codesBefore = codes;
        States.Share[] tablesBefore = tables;
        int[] latestBefore = latest;
        window = (flags & 4) != 0 ? row.length : 1 << 10 + e;
        data = Checks.join(content, row);
        byte[] out = head(row.length);
        int step = Math.max(1, Math.min(cut, Math.min(131072, window)));
        for (int at = 0; at == 0 || at < row.length; at += step) {
            int end = Math.min(row.length, at + step);
            byte[] part = Checks.part(row, at, end);
            boolean last = end == row.length;
            if (part.length > 0 && areSame(part)) {
                about[2]++;
                out = Checks.join(out, States.blockHead(1, last, part.length), Checks.part(part, 0, 1));
                continue;
            }
            codes = codesNow;
            tables = tablesNow.clone();
            latest = latestNow.clone();
            byte[] packed = part.length == 0 ? part : packed(content.length + at, content.length + end);
            packedSize = packed.length;
            if (part.length > 0 && packed.length < part.length) {
                codesNow = codes;
                tablesNow = tables;
                latestNow = latest;
                count();
                out = Checks.join(out, States.blockHead(2, last, packed.length), packed);
            } else {
                about[1]++;
                out = Checks.join(out, States.blockHead(0, last, part.length), part);
            }
        }
        codes = codesBefore;
        tables = tablesBefore;
        latest = latestBefore;
        return (flags & 1) != 0 ? Checks.join(out, Checks.number(Checks.wide(row), 4)) : out;
    }

    private byte[] head(int n) {
        boolean single = (flags & 4) != 0;
        boolean sized = single || (flags & 2) != 0;
        int f = !sized ? 0 : n < 256 ? single ? 0 : 2 : n < 65536 + 256 ? 1 : 2;
        int g = (flags & 8) == 0 || id == 0 ? 0 : id > 0 && id < 256 ? 1 : id > 0 && id < 65536 ? 2 : 3;
        byte[] size = !sized ? new byte[0] : f == 0 ? Checks.number(n, 1) : f == 1 ? Checks.number(n - 256, 2)
            : Checks.number(n, 4);
        return Checks.join(Checks.bytes(40, 181, 47, 253, 64 * f + (single ? 32 : 0) + (flags & 1) * 4 + g),
            single ? new byte[0] : Checks.bytes(8 * e), Checks.number(id, g == 3 ? 4 : g), size);
    }

    private static boolean areSame(byte[] b) {
        for (byte v : b) {
            if (v != b[0]) {
                return false;
            }
        }
        return true;
    }

    private void count() {
        about[3]++;
        about[4] += sequences.all.size();
        about[5 + wayOfLiterals]++;
        for (int t = 0; t < 3 && sequences.all.size() > 0; t++) {
            about[9 + modes[t]]++;
        }
    }

    // Length and distance of the match at p, or null.
    private int[] longest(int p, int end, int atLeast, boolean nearest) {
        int[] best = null;
        for (int q = p - 1; q >= 0 && p - q <= window; q--) {
            int n = 0;
            while (p + n < end && data[p + n] == data[q + n]) {
                n++;
            }
            if (n >= atLeast && (best == null || !nearest && n > best[0])) {
                best = new int[] {n, p - q};
            }
        }
        return best;
    }

    private int[] match(int p, int end) {
        if (way == 0) {
            return longest(p, end, least, true);
        }
        if (way == 1) {
            int[] far = longest(p, end, Math.max(8, least), true);
            return far != null ? far : longest(p, end, least, true);
        }
        int[] here = longest(p, end, least, false);
        int[] next = way == 3 && here != null && p + 1 < end ? longest(p + 1, end, least, false) : null;
        return next != null && next[0] > here[0] ? null : here;
    }

    private void go(int h, int end) {
        sequences = new States.Sequences();
        List<Byte> lits = new ArrayList<>();
        int since = 0;
        int p = h;
        while (p < end) {
            int[] m = match(p, end);
            if (m == null) {
                lits.add(data[p++]);
                since++;
            } else {
                sequences.add(since, vOf(m[1], since), m[0]);
                since = 0;
                p += m[0];
            }
        }
        literals = new byte[lits.size()];
        for (int i = 0; i < literals.length; i++) {
            literals[i] = lits.get(i);
        }
    }

    // The least v that tells a distance; LATEST changes.
    private int vOf(int distance, int since) {
        int v = 1;
        int w = since == 0 ? 2 : 1;
        while (v <= 3 && distance != (w == 4 ? latest[0] - 1 : latest[w - 1])) {
            v++;
            w++;
        }
        if (v > 3 || w >= 3) {
            latest = new int[] {distance, latest[0], latest[1]};
        } else if (w == 2) {
            latest = new int[] {distance, latest[0], latest[2]};
        }
        told[Math.min(v, 4) - 1 + (since == 0 ? 4 : 0)]++;
        return v > 3 ? distance + 3 : v;
    }

    private static int[] counts(byte[] b) {
        int[] counts = new int[256];
        for (byte v : b) {
            counts[v & 255]++;
        }
        return counts;
    }

    private byte[] packed(int h, int end) {
        go(h, end);
        byte[] out = literals();
        out = Checks.join(out, sequences.number());
        if (sequences.all.isEmpty()) {
            return out;
        }
        byte[] told = {};
        for (int t = 0; t < 3; t++) {
            told = Checks.join(told, table(t));
        }
        return Checks.join(out, Checks.bytes(modes[0] << 6 | modes[1] << 4 | modes[2] << 2), told,
            sequences.stream(tables));
    }

    private byte[] literals() {
        byte[][] ways = new byte[4][];
        ways[0] = States.plain(0, literals);
        int[] lengths = null;
        if (literals.length > 0 && areSame(literals)) {
            ways[1] = States.plain(1, literals);
        }
        if (codes != null) {
            ways[3] = coded(3, codes, new byte[0]);
        }
        if (literals.length > 0 && !areSame(literals)) {
            lengths = States.lengthsByCounts(counts(literals), 11);
            byte[] description = States.description(lengths);
            ways[2] = description == null ? null : coded(2, lengths, description);
        }
        wayOfLiterals = 0;
        for (int k : new int[] {0, 1, 3, 2}) {
            literalSizes[k] = ways[k] == null ? 0 : ways[k].length;
            if (ways[k] != null && ways[k].length < ways[wayOfLiterals].length) {
                wayOfLiterals = k;
            }
        }
        codes = wayOfLiterals == 2 ? lengths : codes;
        return ways[wayOfLiterals];
    }

    private byte[] coded(int k, int[] lengths, byte[] description) {
        int n = literals.length;
        for (byte v : literals) {
            if (lengths[v & 255] == 0) {
                return null;
            }
        }
        byte[] told = Checks.join(description, n < 1024 ? States.stream(literals, lengths)
            : States.fourStreams(literals, lengths));
        if (n < 1024) {
            return told.length >= 1024 ? null : States.coded(k, 0, n, told);
        }
        return States.coded(k, n < 16384 && told.length < 16384 ? 2 : 3, n, told);
    }

    private byte[] table(int t) {
        int[] row = sequences.symbols(t);
        States.Share[] shares = new States.Share[4];
        boolean alone = Arrays.stream(row).distinct().count() == 1;
        States.Share known = States.Share.known(t);
        shares[0] = known.has(row) ? known : null;
        shares[1] = alone ? States.Share.alone(row[0]) : null;
        shares[2] = best(t, row, orderCosts[t]);
        shares[3] = tables[t] != null && tables[t].has(row) ? tables[t] : null;
        int best = -1;
        for (int mode = 0; mode < 4; mode++) {
            costs[t][mode] = -1;
            if (shares[mode] != null) {
                costs[t][mode] = mode == 1 ? 8 : shares[mode].cost(row) + (mode == 2 ? 8 * shares[2].told().length : 0);
                best = best < 0 || costs[t][mode] < costs[t][best] ? mode : best;
            }
        }
        modes[t] = best;
        tables[t] = shares[best];
        return best == 1 ? Checks.bytes(row[0]) : best == 2 ? shares[2].told() : new byte[0];
    }

    // The share that mode 2 takes; leaves what each order costs.
    private static States.Share best(int t, int[] row, int[] costs) {
        int[] counts = new int[States.LAST[t] + 1];
        for (int s : row) {
            counts[s]++;
        }
        States.Share best = null;
        int least = Integer.MAX_VALUE;
        Arrays.fill(costs, 0);
        for (int order = 5; order <= States.GREATEST[t]; order++) {
            if (1 << order >= Arrays.stream(row).distinct().count()) {
                States.Share share = new States.Share(order, States.byCounts(counts, order));
                costs[order] = 8 * share.told().length + share.cost(row);
                best = costs[order] < least ? share : best;
                least = Math.min(least, costs[order]);
            }
        }
        return best;
    }

    // null when it is refused.
    byte[] made(byte[] row) {
        if (row.length < 8) {
            return null;
        }
        int[] latestBefore = latest;
        data = row;
        window = 65536;
        latest = new int[] {1, 4, 8};
        go(0, row.length);
        latest = latestBefore;
        if (sequences.all.isEmpty() || areSame(literals)) {
            return null;
        }
        byte[] description = States.description(States.lengthsByCounts(counts(literals), 11));
        if (description == null) {
            return null;
        }
        byte[] shares = {};
        for (int t : new int[] {1, 2, 0}) {
            shares = Checks.join(shares, best(t, sequences.symbols(t), orderCosts[t]).told());
        }
        return Checks.join(Checks.bytes(55, 164, 48, 236), Checks.number(newId, 4), description, shares,
            Checks.number(1, 4), Checks.number(4, 4), Checks.number(8, 4), row);
    }

    // What made() made becomes the DICTIONARY.
    void learnMade(byte[] row) {
        made(row);
        content = row;
        id = newId;
        codes = States.lengthsByCounts(counts(literals), 11);
        for (int t = 0; t < 3; t++) {
            tables[t] = best(t, sequences.symbols(t), orderCosts[t]);
        }
        latest = new int[] {1, 4, 8};
    }

    int sequencesFound() {
        return sequences.all.size();
    }

    byte[] literalsFound() {
        return literals;
    }
}
