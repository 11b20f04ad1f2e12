import java.util.Arrays;

/** A house for rows of bytes that are packed by tokens, by tags, or by prefixes and states. */
public final class PackHouse {
    private static final int MOST_BYTES = 65536;
    private static final int MOST_WRITTEN = 16384;
    private static final int MOST_OF_A_BLOCK = 131072;
    private static final int GREATEST_INT = 0x7FFFFFFF;

    private static final int TOKEN_BLOCK = 0;
    private static final int TOKEN_FRAME = 1;
    private static final int TAG_BLOCK = 2;
    private static final int TAG_STREAM = 3;
    private static final int STATE_FRAME = 4;
    private static final int FORMED = 5;

    private static final int WAY = 0;
    private static final int LEAST = 1;
    private static final int CUT = 2;
    private static final int TOKEN_FLAGS = 3;
    private static final int K = 4;
    private static final int KEY = 5;
    private static final int SPARE = 6;
    private static final int STATE_FLAGS = 7;
    private static final int E = 8;
    private static final int ID = 9;

    private static final int TOKEN_MARK = 0x184D2204;
    private static final int STATE_MARK = 0xFD2FB528;
    private static final int FORMED_MARK = 0xEC30A437;
    private static final int SPARE_MARK = 0x184D2A50;
    private static final byte[] TAG_MARK = {-1, 6, 0, 0, 115, 78, 97, 80, 112, 89};

    private static final int P1 = (int) 2654435761L;
    private static final int P2 = (int) 2246822519L;
    private static final int P3 = (int) 3266489917L;
    private static final int P4 = 668265263;
    private static final int P5 = 374761393;

    private static final long Q1 = 0x9E3779B185EBCA87L;
    private static final long Q2 = 0xC2B2AE3D27D4EB4FL;
    private static final long Q3 = 0x165667B19E3779F9L;
    private static final long Q4 = 0x85EBCA77C2B2AE63L;
    private static final long Q5 = 0x27D4EB2F165667C5L;

    // What four steps of the polynomial's register put in, by the four bits taken off.
    private static final int[] POLYNOMIAL = {
        0, 274646895, 549293790, 820201905, 1098587580, 1361435347, 1640403810, 1905808397,
        -2097792136, -1834419177, -1572096602, -1307217207, -1014159676, -741088853, -483350502, -210866315};
    private static final int POLYNOMIAL_MASK = (int) 2726488792L;

    // The three kinds of symbols of states, wherever an array has one entry for each.
    private static final int LITERAL_LENGTHS = 0;
    private static final int DISTANCES = 1;
    private static final int MATCH_LENGTHS = 2;
    // No share told takes as many bytes as this.
    private static final int SHARE_ROOM = 128;
    private static final int[] GREATEST_ORDERS = {9, 8, 9};
    private static final int[] LAST_SYMBOLS = {35, 31, 52};

    private static final int[] KNOWN_LITERALS = {
        4, 3, 2, 2, 2, 2, 2, 2, 2, 2, 2, 2, 2, 1, 1, 1, 2, 2,
        2, 2, 2, 2, 2, 2, 2, 3, 2, 1, 1, 1, 1, 1, -1, -1, -1, -1};
    private static final int[] KNOWN_DISTANCES = {
        1, 1, 1, 1, 1, 1, 2, 2, 2, 1, 1, 1, 1, 1, 1, 1, 1, 1, 1, 1, 1, 1, 1, 1, -1, -1, -1, -1, -1};
    private static final int[] KNOWN_MATCHES = {
        1, 4, 3, 2, 2, 2, 2, 2, 2, 1, 1, 1, 1, 1, 1, 1, 1, 1, 1, 1, 1, 1, 1, 1, 1, 1, 1,
        1, 1, 1, 1, 1, 1, 1, 1, 1, 1, 1, 1, 1, 1, 1, 1, 1, 1, 1, -1, -1, -1, -1, -1, -1, -1};

    private static final int[] LITERAL_BASES = {
        0, 1, 2, 3, 4, 5, 6, 7, 8, 9, 10, 11, 12, 13, 14, 15, 16, 18, 20, 22, 24, 28, 32, 40,
        48, 64, 128, 256, 512, 1024, 2048, 4096, 8192, 16384, 32768, 65536};
    private static final int[] LITERAL_BITS = {
        0, 0, 0, 0, 0, 0, 0, 0, 0, 0, 0, 0, 0, 0, 0, 0, 1, 1, 1, 1, 2, 2, 3, 3,
        4, 6, 7, 8, 9, 10, 11, 12, 13, 14, 15, 16};
    private static final int[] MATCH_BASES = {
        3, 4, 5, 6, 7, 8, 9, 10, 11, 12, 13, 14, 15, 16, 17, 18, 19, 20, 21, 22, 23, 24, 25, 26, 27, 28, 29,
        30, 31, 32, 33, 34, 35, 37, 39, 41, 43, 47, 51, 59, 67, 83, 99, 131, 259, 515, 1027, 2051, 4099,
        8195, 16387, 32771, 65539};
    private static final int[] MATCH_BITS = {
        0, 0, 0, 0, 0, 0, 0, 0, 0, 0, 0, 0, 0, 0, 0, 0, 0, 0, 0, 0, 0, 0, 0, 0, 0, 0, 0,
        0, 0, 0, 0, 0, 1, 1, 1, 1, 2, 2, 3, 3, 4, 4, 5, 7, 8, 9, 10, 11, 12,
        13, 14, 15, 16};

    private final Row[] rows = {new Row(), new Row(), new Row(), new Row()};
    private final int[] settings = {2, 4, 65536, 100, 4, 0, 0, 3, 6, 0};
    private final Row past = new Row();
    private Dictionary dictionary = new Dictionary();
    private Dictionary otherDictionary = new Dictionary();
    private final Row written = new Row();
    private final Row content = new Row();
    // Made when a call needs them first: many objects never do, and some are large.
    private Finder finder;
    private Tokens tokens;
    private Tags tags;
    private Share[] known;
    private Packer packer;
    private Unpacker unpacker;
    private final int[] packCounts = new int[13];
    private final int[] readCounts = new int[5];
    private final int[] checkCounts = new int[5];
    private final int[] strays = new int[2];
    private int readPlace;
    private int place;

    public PackHouse() {
    }

    public boolean feed(int r, int a, int b, int c, int d) {
        if (!isRow(r) || !rows[r].reserve(16)) {
            return false;
        }
        addHighestFirst(rows[r], (long) a << 32 | b & 0xFFFFFFFFL, 8);
        addHighestFirst(rows[r], (long) c << 32 | d & 0xFFFFFFFFL, 8);
        return true;
    }

    public boolean give(int r, int n, long eight) {
        if (!isRow(r) || n < 1 || n > 8 || !rows[r].reserve(n)) {
            return false;
        }
        addHighestFirst(rows[r], eight, n);
        return true;
    }

    public boolean again(int r, int m, int n) {
        if (!isRow(r) || m < 1 || m > rows[r].count || n < 0) {
            return false;
        }
        long more = (long) m * n;
        if (more > MOST_BYTES - rows[r].count) {
            return false;
        }
        rows[r].copyBack(m, (int) more, 0, rows[r]);
        return true;
    }

    public boolean cut(int r, int n) {
        if (!isRow(r) || n < 0 || n > rows[r].count) {
            return false;
        }
        rows[r].count = n;
        return true;
    }

    public boolean join(int d, int a, int from, int to) {
        if (!isRow(d) || !isRow(a)) {
            return false;
        }
        int n = isPart(rows[a], from, to) ? to - from : 0;
        if (!rows[d].reserve(n)) {
            return false;
        }
        if (n > 0) {
            rows[d].addPart(rows[a].bytes, from, n);
        }
        return true;
    }

    public int size(int r) {
        return isRow(r) ? rows[r].count : -1;
    }

    public int byteAt(int r, int k) {
        return isRow(r) && k >= 0 && k < rows[r].count ? rows[r].bytes[k] & 255 : -1;
    }

    public int differ(int r, int s) {
        return isRow(r) && isRow(s) ? firstUnlike(rows[r], rows[s]) : -2;
    }

    public boolean set(int what, int v) {
        if (!isSetting(what) || !mayBe(what, v)) {
            return false;
        }
        settings[what] = v;
        return true;
    }

    public int get(int what) {
        return isSetting(what) ? settings[what] : -1;
    }

    public int narrow(int r, int from, int to, int seed) {
        if (!isRow(r)) {
            return 0;
        }
        boolean part = isPart(rows[r], from, to);
        return narrowSum(rows[r].bytes, part ? from : 0, part ? to : 0, seed);
    }

    public long wide(int r, int from, int to, long seed) {
        if (!isRow(r)) {
            return 0;
        }
        boolean part = isPart(rows[r], from, to);
        return wideSum(rows[r].bytes, part ? from : 0, part ? to : 0, seed);
    }

    public int poly(int r, int from, int to, boolean masked) {
        if (!isRow(r)) {
            return 0;
        }
        boolean part = isPart(rows[r], from, to);
        int sum = polynomialSum(rows[r].bytes, part ? from : 0, part ? to : 0);
        return masked ? maskedSum(sum) : sum;
    }

    public boolean history(int r) {
        if (!isRow(r)) {
            return false;
        }
        past.become(rows[r]);
        return true;
    }

    public int learn(int r) {
        if (!isRow(r)) {
            return -5;
        }
        int answer = otherDictionary.hear(rows[r]);
        if (answer >= 0) {
            Dictionary before = dictionary;
            dictionary = otherDictionary;
            otherDictionary = before;
        }
        return answer;
    }

    public boolean forget(int what) {
        if (what == 0) {
            past.clear();
        } else if (what == 1) {
            dictionary.clear();
        } else {
            return false;
        }
        return true;
    }

    public int write(int d, int a, int format) {
        if (!isRow(d) || !isRow(a) || format < TOKEN_BLOCK || format > FORMED
                || rows[a].count + bytesAhead(format) > MOST_WRITTEN) {
            return -1;
        }
        Row from = rows[a];
        boolean made = true;
        written.clear();
        switch (format) {
            case TOKEN_BLOCK: theTokens().packAlone(written, from); break;
            case TOKEN_FRAME: theTokens().packFrame(written, from); break;
            case TAG_BLOCK: theTags().packAlone(written, from); break;
            case TAG_STREAM: theTags().packStream(written, from); break;
            case STATE_FRAME: thePacker().packFrame(written, from, dictionary); break;
            default: made = thePacker().packDictionary(written, from); break;
        }
        if (!made || written.burst) {
            return -1;
        }
        if (format != FORMED) {
            int came = unpackRow(written, format, from.count, checkCounts);
            strays[0] += came == from.count && firstUnlike(content, from) < 0 ? 0 : 1;
        }
        strays[1] += written.count > boundOf(format, from.count) ? 1 : 0;
        if (format == STATE_FRAME) {
            System.arraycopy(packer.counts, 0, packCounts, 0, packCounts.length);
        }
        rows[d].become(written);
        return written.count;
    }

    public int read(int d, int a, int format, int most) {
        if (!isRow(d) || !isRow(a) || format < TOKEN_BLOCK || format > STATE_FRAME
                || most < 0 || most > MOST_BYTES) {
            return -50;
        }
        return settle(d, unpackRow(rows[a], format, most, readCounts));
    }

    public int kind(int a) {
        return isRow(a) ? formatOf(rows[a]) : -1;
    }

    public int open(int d, int a, int most) {
        if (!isRow(d) || !isRow(a) || most < 0 || most > MOST_BYTES) {
            return -50;
        }
        int format = formatOf(rows[a]);
        if (format == 0 || format == FORMED) {
            return -51;
        }
        return settle(d, unpackRow(rows[a], format, most, readCounts));
    }

    public int bound(int format, int n) {
        return format < TOKEN_BLOCK || format > FORMED || n < 0 || n > MOST_WRITTEN ? -1 : boundOf(format, n);
    }

    public int about(int what) {
        if (what == 0) {
            return place;
        }
        if (what >= 1 && what <= 12) {
            return packCounts[what];
        }
        if (what >= 13 && what <= 17) {
            return readCounts[what - 13];
        }
        switch (what) {
            case 18: return past.count;
            case 19: return dictionary.content.count;
            case 20: return dictionary.id;
            default: return -1;
        }
    }

    public int strayed(int what) {
        return what == 0 || what == 1 ? strays[what] : -1;
    }

    private static boolean isRow(int r) {
        return r >= 0 && r <= 3;
    }

    private static boolean isSetting(int what) {
        return what >= WAY && what <= ID;
    }

    private static boolean mayBe(int what, int v) {
        switch (what) {
            case WAY: return v >= 0 && v <= 3;
            case LEAST: return v >= 3 && v <= 8;
            case CUT: return v >= 1 && v <= MOST_BYTES;
            case TOKEN_FLAGS: return Tokens.areFlags(v);
            case K: return v >= 4 && v <= 7;
            case SPARE: return v >= 0 && v <= 255;
            case STATE_FLAGS: return v >= 0 && v <= 15;
            case E: return v >= 0 && v <= 11;
            default: return true;
        }
    }

    private static boolean isPart(Row row, int from, int to) {
        return 0 <= from && from <= to && to <= row.count;
    }

    private static void addHighestFirst(Row row, long eight, int n) {
        for (int i = 0; i < n; i++) {
            row.add((int) (eight >>> 56 - 8 * i));
        }
    }

    private static int firstUnlike(Row one, Row other) {
        int both = Math.min(one.count, other.count);
        for (int i = 0; i < both; i++) {
            if (one.bytes[i] != other.bytes[i]) {
                return i;
            }
        }
        return one.count == other.count ? -1 : both;
    }

    private int bytesAhead(int format) {
        if (format == TOKEN_BLOCK || format == TOKEN_FRAME) {
            return past.count;
        }
        return format == STATE_FRAME ? dictionary.content.count : 0;
    }

    private int settle(int d, int came) {
        place = readPlace;
        if (came >= 0) {
            rows[d].become(content);
        }
        return came;
    }

    private int unpackRow(Row from, int format, int most, int[] counts) {
        content.clear();
        int fault = 0;
        switch (format) {
            case TOKEN_BLOCK:
                fault = theTokens().unpackAlone(from, content, most);
                readPlace = tokens.place;
                break;
            case TOKEN_FRAME:
                fault = theTokens().unpackFrames(from, content, most);
                readPlace = tokens.place;
                break;
            case TAG_BLOCK:
                fault = theTags().unpackAlone(from, content, most);
                readPlace = tags.place;
                break;
            case TAG_STREAM:
                fault = theTags().unpackStream(from, content, most);
                readPlace = tags.place;
                break;
            default:
                fault = theUnpacker().unpackFrames(from, content, most, dictionary, counts);
                readPlace = unpacker.place;
                break;
        }
        return fault == 0 ? content.count : -fault;
    }

    private static int formatOf(Row row) {
        byte[] d = row.bytes;
        int at = 0;
        for (int turn = 0; turn <= row.count && isSpare(d, at, row.count); turn++) {
            int next = afterSpare(d, at, row.count);
            if (next < 0) {
                return 0;
            }
            at = next;
        }
        if (row.count - at < 4) {
            return 0;
        }
        switch (word(d, at)) {
            case TOKEN_MARK: return TOKEN_FRAME;
            case STATE_MARK: return STATE_FRAME;
            case FORMED_MARK: return FORMED;
            default: return Tags.isMark(d, at, row.count) ? TAG_STREAM : 0;
        }
    }

    private int boundOf(int format, int n) {
        int rowsOf = (n + settings[CUT] - 1) / settings[CUT];
        switch (format) {
            case TOKEN_BLOCK: return n + n / 255 + 16;
            case TOKEN_FRAME: return 27 + 8 * rowsOf + n;
            case TAG_BLOCK: return 32 + n + n / 6;
            case TAG_STREAM: return 10 + n + 8 * rowsOf + (settings[SPARE] > 0 ? rowsOf * (4 + settings[SPARE]) : 0);
            case STATE_FRAME:
                int step = Packer.rowLength(settings, n);
                return 22 + 3 * (n == 0 ? 1 : (n + step - 1) / step) + n;
            default: return 700 + n;
        }
    }

    private Finder theFinder() {
        if (finder == null) {
            finder = new Finder();
        }
        return finder;
    }

    private Tokens theTokens() {
        if (tokens == null) {
            tokens = new Tokens(settings, past, theFinder());
        }
        return tokens;
    }

    private Tags theTags() {
        if (tags == null) {
            tags = new Tags(settings, theFinder());
        }
        return tags;
    }

    private Share[] theKnown() {
        if (known == null) {
            known = new Share[] {new Share(6, 36), new Share(5, 29), new Share(6, 53)};
            known[LITERAL_LENGTHS].become(KNOWN_LITERALS, 6);
            known[DISTANCES].become(KNOWN_DISTANCES, 5);
            known[MATCH_LENGTHS].become(KNOWN_MATCHES, 6);
        }
        return known;
    }

    private Packer thePacker() {
        if (packer == null) {
            packer = new Packer(settings, theFinder(), theKnown());
        }
        return packer;
    }

    private Unpacker theUnpacker() {
        if (unpacker == null) {
            unpacker = new Unpacker(theKnown());
        }
        return unpacker;
    }

    private static int word(byte[] d, int at) {
        return d[at] & 255 | (d[at + 1] & 255) << 8 | (d[at + 2] & 255) << 16 | d[at + 3] << 24;
    }

    private static long number(byte[] d, int at, int n) {
        long v = 0;
        for (int i = n - 1; i >= 0; i--) {
            v = v << 8 | d[at + i] & 255;
        }
        return v;
    }

    private static boolean isSpare(byte[] d, int at, int end) {
        return end - at >= 4 && (word(d, at) & ~15) == SPARE_MARK;
    }

    // Where the spare bytes that begin at a place end, -1 when the row ends before that.
    private static int afterSpare(byte[] d, int at, int end) {
        if (end - at < 8) {
            return -1;
        }
        long after = at + 8 + number(d, at + 4, 4);
        return after > end ? -1 : (int) after;
    }

    // The greatest k with 2^k not above v, which is above 0.
    private static int highestBit(int v) {
        int k = 0;
        for (int half = v >> 1; half > 0; half >>= 1) {
            k++;
        }
        return k;
    }

    private static int rotated(int v, int k) {
        return v << k | v >>> 32 - k;
    }

    private static long rotated(long v, int k) {
        return v << k | v >>> 64 - k;
    }

    private static int narrowLane(int lane, int word) {
        return rotated(lane + word * P2, 13) * P1;
    }

    private static int narrowSum(byte[] d, int from, int to, int seed) {
        int at = from;
        int h = seed + P5;
        if (to - from >= 16) {
            int one = seed + P1 + P2;
            int two = seed + P2;
            int three = seed;
            int four = seed - P1;
            for (; to - at >= 16; at += 16) {
                one = narrowLane(one, word(d, at));
                two = narrowLane(two, word(d, at + 4));
                three = narrowLane(three, word(d, at + 8));
                four = narrowLane(four, word(d, at + 12));
            }
            h = rotated(one, 1) + rotated(two, 7) + rotated(three, 12) + rotated(four, 18);
        }
        h += to - from;
        for (; to - at >= 4; at += 4) {
            h = rotated(h + word(d, at) * P3, 17) * P4;
        }
        for (; at < to; at++) {
            h = rotated(h + (d[at] & 255) * P5, 11) * P1;
        }
        h = (h ^ h >>> 15) * P2;
        h = (h ^ h >>> 13) * P3;
        return h ^ h >>> 16;
    }

    private static long wideLane(long lane, long word) {
        return rotated(lane + word * Q2, 31) * Q1;
    }

    private static long wideSum(byte[] d, int from, int to, long seed) {
        int at = from;
        long h = seed + Q5;
        if (to - from >= 32) {
            long one = seed + Q1 + Q2;
            long two = seed + Q2;
            long three = seed;
            long four = seed - Q1;
            for (; to - at >= 32; at += 32) {
                one = wideLane(one, number(d, at, 8));
                two = wideLane(two, number(d, at + 8, 8));
                three = wideLane(three, number(d, at + 16, 8));
                four = wideLane(four, number(d, at + 24, 8));
            }
            h = rotated(one, 1) + rotated(two, 7) + rotated(three, 12) + rotated(four, 18);
            h = (h ^ wideLane(0, one)) * Q1 + Q4;
            h = (h ^ wideLane(0, two)) * Q1 + Q4;
            h = (h ^ wideLane(0, three)) * Q1 + Q4;
            h = (h ^ wideLane(0, four)) * Q1 + Q4;
        }
        return wideRest(d, at, to, h + (to - from));
    }

    private static long wideRest(byte[] d, int from, int to, long begun) {
        int at = from;
        long h = begun;
        for (; to - at >= 8; at += 8) {
            h = rotated(h ^ wideLane(0, number(d, at, 8)), 27) * Q1 + Q4;
        }
        if (to - at >= 4) {
            h = rotated(h ^ number(d, at, 4) * Q1, 23) * Q2 + Q3;
            at += 4;
        }
        for (; at < to; at++) {
            h = rotated(h ^ (d[at] & 255) * Q5, 11) * Q1;
        }
        h = (h ^ h >>> 33) * Q2;
        h = (h ^ h >>> 29) * Q3;
        return h ^ h >>> 32;
    }

    private static int polynomialSum(byte[] d, int from, int to) {
        int register = -1;
        for (int at = from; at < to; at++) {
            register ^= d[at] & 255;
            register = register >>> 4 ^ POLYNOMIAL[register & 15];
            register = register >>> 4 ^ POLYNOMIAL[register & 15];
        }
        return ~register;
    }

    private static int maskedSum(int sum) {
        return rotated(sum, 17) + POLYNOMIAL_MASK;
    }

    /** Bytes one behind the other, as many as a row may have; burst tells that some did not fit. */
    private static final class Row {
        byte[] bytes = new byte[0];
        int count;
        boolean burst;
        private int held;
        private int heldBits;

        void clear() {
            count = 0;
            burst = false;
            held = 0;
            heldBits = 0;
        }

        // Grows in large steps: what was made before is never given back.
        boolean reserve(int more) {
            if (more < 0 || more > MOST_BYTES - count) {
                return false;
            }
            if (more > bytes.length - count) {
                int grown = Math.min(MOST_BYTES, Math.max(256, 4 * bytes.length));
                bytes = Arrays.copyOf(bytes, Math.max(count + more, grown));
            }
            return true;
        }

        void become(Row other) {
            clear();
            addPart(other.bytes, 0, other.count);
        }

        void add(int v) {
            if (count < bytes.length || reserve(1)) {
                bytes[count++] = (byte) v;
            } else {
                burst = true;
            }
        }

        void addNumber(long v, int n) {
            if (!reserve(n)) {
                burst = true;
                return;
            }
            for (int i = 0; i < n; i++) {
                bytes[count++] = (byte) (v >>> 8 * i);
            }
        }

        void addPart(byte[] d, int at, int n) {
            if (!reserve(n)) {
                burst = true;
                return;
            }
            System.arraycopy(d, at, bytes, count, n);
            count += n;
        }

        void addSame(int v, int n) {
            if (!reserve(n)) {
                burst = true;
                return;
            }
            Arrays.fill(bytes, count, count + n, (byte) v);
            count += n;
        }

        // What lies behind base is the end of the row before.
        void copyBack(int distance, int n, int base, Row before) {
            if (!reserve(n)) {
                burst = true;
                return;
            }
            for (int i = 0; i < n; i++) {
                int q = count - distance;
                bytes[count++] = q >= base ? bytes[q] : before.bytes[before.count + q - base];
            }
        }

        // Up to 16 bits; the caller has reserved room for them.
        void addBits(int v, int n) {
            held |= (v & (1 << n) - 1) << heldBits;
            heldBits += n;
            for (; heldBits >= 8; heldBits -= 8) {
                if (count < bytes.length) {
                    bytes[count++] = (byte) held;
                } else {
                    burst = true;
                }
                held >>>= 8;
            }
        }

        // Zeros up to the end of a byte.
        void endBits() {
            if (heldBits > 0 && count < bytes.length) {
                bytes[count++] = (byte) held;
            } else if (heldBits > 0) {
                burst = true;
            }
            held = 0;
            heldBits = 0;
        }
    }

    /** Finds the matches of DATA; places with the same hash are linked, each to the nearest before it. */
    private static final class Finder {
        private static final int HEADS = 2048;

        final Row data = new Row();
        int[] literals = new int[0];
        int[] lengths = new int[0];
        int[] distances = new int[0];
        int found;
        int tail;
        int laid;
        private int[] heads = new int[0];
        private int[] back = new int[0];
        private int way;
        private int least;
        private int window;
        private int end;
        private int lastStart;
        private int length;
        private int distance;
        private int aheadPlace;
        private int aheadLength;
        private int aheadDistance;

        void begin(int wayNow, int leastNow, int windowNow) {
            way = wayNow;
            least = leastNow;
            window = windowNow;
            laid = 0;
            if (heads.length == 0) {
                heads = new int[HEADS];
            }
            Arrays.fill(heads, -1);
        }

        private int hashAt(int p) {
            int h = 0;
            for (int i = 0; i < least; i++) {
                h = h * 257 + data.bytes[p + i];
            }
            return h * P1 >>> 21;
        }

        void lay(int n) {
            if (back.length < n) {
                back = Arrays.copyOf(back, Math.max(n, Math.min(MOST_WRITTEN, Math.max(256, 4 * back.length))));
            }
            for (; laid + least <= n; laid++) {
                int h = hashAt(laid);
                back[laid] = heads[h];
                heads[h] = laid;
            }
        }

        // Takes the links of the last places off again; DATA must still be as it was when they were laid.
        void unlay(int to) {
            for (; laid > to; laid--) {
                heads[hashAt(laid - 1)] = back[laid - 1];
            }
        }

        // GOING from a place on: p's bytes lie before stop, and no match begins behind lastOne.
        void go(int from, int n, int stop, int lastOne) {
            end = stop;
            lastStart = lastOne;
            found = 0;
            aheadPlace = -1;
            int since = from;
            int p = from;
            for (int turn = from; turn < n && p <= lastStart; turn++) {
                if (matchAt(p)) {
                    note(p - since);
                    p += length;
                    since = p;
                } else {
                    p++;
                }
            }
            tail = n - since;
        }

        private void note(int before) {
            if (found == lengths.length) {
                int grown = Math.max(64, 4 * found);
                literals = Arrays.copyOf(literals, grown);
                lengths = Arrays.copyOf(lengths, grown);
                distances = Arrays.copyOf(distances, grown);
            }
            literals[found] = before;
            lengths[found] = length;
            distances[found] = distance;
            found++;
        }

        private boolean matchAt(int p) {
            if (way < 2) {
                return way == 1 && nearest(p, 8) || nearest(p, least);
            }
            longest(p);
            if (length == 0 || way == 2 || p + 1 > lastStart) {
                return length > 0;
            }
            int lengthHere = length;
            int distanceHere = distance;
            longest(p + 1);
            aheadPlace = p + 1;
            aheadLength = length;
            aheadDistance = distance;
            length = lengthHere;
            distance = distanceHere;
            return aheadLength <= lengthHere;
        }

        private int common(int q, int p) {
            int n = 0;
            while (p + n < end && data.bytes[q + n] == data.bytes[p + n]) {
                n++;
            }
            return n;
        }

        private boolean nearest(int p, int few) {
            int q = back[p];
            for (int turn = 0; turn < p && q >= 0 && p - q <= window; turn++) {
                int n = common(q, p);
                if (n >= few) {
                    length = n;
                    distance = p - q;
                    return true;
                }
                q = back[q];
            }
            return false;
        }

        private void longest(int p) {
            if (p == aheadPlace) {
                length = aheadLength;
                distance = aheadDistance;
                return;
            }
            length = 0;
            distance = 0;
            int q = back[p];
            for (int turn = 0; turn < p && q >= 0 && p - q <= window && p + length < end; turn++) {
                // Only one that agrees behind the longest so far can be longer.
                if (data.bytes[q + length] == data.bytes[p + length]) {
                    int n = common(q, p);
                    if (n >= least && n > length) {
                        length = n;
                        distance = p - q;
                    }
                }
                q = back[q];
            }
        }
    }

    /** I. TOKENS: blocks and frames, written and read. */
    private static final class Tokens {
        private static final int ALONE = 32;
        private static final int BLOCK_SUMS = 16;
        private static final int SIZED = 8;
        private static final int CONTENT_SUM = 4;
        private static final int KEYED = 1;
        private static final int WINDOW = 65535;

        private final int[] settings;
        private final Row past;
        private final Finder finder;
        private final Row packed = new Row();
        private byte[] in;
        private int stop;
        private Row result;
        private int most;
        private int flags;
        private int blockMost;
        private int contentBegin;
        private int sum;
        int place;

        Tokens(int[] settingsOfAll, Row history, Finder finderOfAll) {
            settings = settingsOfAll;
            past = history;
            finder = finderOfAll;
        }

        static boolean areFlags(int v) {
            return (v & ~(ALONE | BLOCK_SUMS | SIZED | CONTENT_SUM | KEYED)) == 64;
        }

        void packAlone(Row out, Row from) {
            finder.data.become(past);
            finder.data.addPart(from.bytes, 0, from.count);
            finder.begin(settings[WAY], 4, WINDOW);
            packBlock(out, past.count);
        }

        private void packBlock(Row out, int h) {
            int n = finder.data.count;
            finder.lay(n);
            finder.go(h, n, n - 5, n - 12);
            int at = h;
            for (int i = 0; i < finder.found; i++) {
                int literals = finder.literals[i];
                int more = finder.lengths[i] - 4;
                packLiterals(out, at, literals, more);
                out.addNumber(finder.distances[i], 2);
                packRest(out, more);
                at += literals + finder.lengths[i];
            }
            packLiterals(out, at, finder.tail, 0);
        }

        private void packLiterals(Row out, int at, int a, int b) {
            out.add(Math.min(a, 15) << 4 | Math.min(b, 15));
            packRest(out, a);
            out.addPart(finder.data.bytes, at, a);
        }

        private static void packRest(Row out, int v) {
            if (v < 15) {
                return;
            }
            out.addSame(255, (v - 15) / 255);
            out.add((v - 15) % 255);
        }

        void packFrame(Row out, Row from) {
            flags = settings[TOKEN_FLAGS];
            packHead(out, from.count);
            Row data = finder.data;
            data.become(past);
            finder.begin(settings[WAY], 4, WINDOW);
            finder.lay(data.count);
            int laidAhead = finder.laid;
            int step = settings[CUT];
            for (int at = 0; step > 0 && at < from.count && !out.burst; at += step) {
                int n = Math.min(step, from.count - at);
                if ((flags & ALONE) != 0) {
                    finder.unlay(laidAhead);
                    data.count = past.count;
                }
                int h = data.count;
                data.addPart(from.bytes, at, n);
                packed.clear();
                packBlock(packed, h);
                boolean plain = packed.count >= n;
                addBlock(out, plain ? data : packed, plain ? h : 0, plain);
            }
            out.addNumber(0, 4);
            if ((flags & CONTENT_SUM) != 0) {
                out.addNumber(narrowSum(from.bytes, 0, from.count, 0), 4);
            }
        }

        private void packHead(Row out, int n) {
            out.addNumber(TOKEN_MARK, 4);
            out.add(flags);
            out.add(settings[K] << 4);
            if ((flags & SIZED) != 0) {
                out.addNumber(n, 8);
            }
            if ((flags & KEYED) != 0) {
                out.addNumber(settings[KEY], 4);
            }
            out.add(narrowSum(out.bytes, 4, out.count, 0) >>> 8);
        }

        private void addBlock(Row out, Row block, int from, boolean plain) {
            int m = block.count - from;
            out.addNumber(plain ? m | 1 << 31 : m, 4);
            out.addPart(block.bytes, from, m);
            if ((flags & BLOCK_SUMS) != 0) {
                out.addNumber(narrowSum(block.bytes, from, block.count, 0), 4);
            }
        }

        private int fail(int fault, int where) {
            place = where;
            return fault;
        }

        private void begin(Row from, Row into, int mostOfAll) {
            in = from.bytes;
            stop = from.count;
            result = into;
            most = mostOfAll;
            place = stop;
        }

        int unpackAlone(Row from, Row into, int mostOfAll) {
            begin(from, into, mostOfAll);
            return unpackBlock(0, stop, 0, most);
        }

        // Reads a block in front of which the result from base on and HISTORY lie.
        private int unpackBlock(int from, int end, int base, int limit) {
            int at = from;
            for (int turn = from; turn <= end; turn++) {
                if (at >= end) {
                    return fail(1, end);
                }
                int token = in[at] & 255;
                at = addUp(token >> 4, at + 1, end);
                int can = Math.min(end - at, limit - result.count);
                if (at < 0 || sum > can) {
                    return at < 0 || can == end - at ? fail(1, end) : fail(3, at + can);
                }
                result.addPart(in, at, sum);
                at += sum;
                if (at == end) {
                    return 0;
                }
                if (end - at < 2) {
                    return fail(1, end);
                }
                int where = at;
                int distance = (int) number(in, at, 2);
                if (distance == 0 || distance > result.count - base + past.count) {
                    return fail(2, where);
                }
                at = addUp(token & 15, at + 2, end);
                if (at < 0) {
                    return fail(1, end);
                }
                if (sum + 4 > limit - result.count) {
                    return fail(3, where);
                }
                result.copyBack(distance, sum + 4, base, past);
            }
            return fail(1, end);
        }

        // Leaves in sum what a number of a token and the bytes added to it come to; -1 when one lacks.
        private int addUp(int begun, int from, int end) {
            sum = begun;
            if (begun < 15) {
                return from;
            }
            for (int at = from; at < end; at++) {
                int more = in[at] & 255;
                sum += more;
                if (more < 255) {
                    return at + 1;
                }
            }
            return -1;
        }

        int unpackFrames(Row from, Row into, int mostOfAll) {
            begin(from, into, mostOfAll);
            int at = 0;
            for (int turn = 0; turn < stop && at < stop; turn++) {
                if (stop - at < 4) {
                    return fail(1, stop);
                }
                if (isSpare(in, at, stop)) {
                    at = afterSpare(in, at, stop);
                    if (at < 0) {
                        return fail(1, stop);
                    }
                } else {
                    int fault = unpackHead(at);
                    fault = fault != 0 ? fault : unpackBlocks(place);
                    fault = fault != 0 ? fault : unpackEnd(place, at + 6);
                    if (fault != 0) {
                        return fault;
                    }
                    at = place;
                }
            }
            return fail(0, stop);
        }

        // Leaves in place where the frame's head ends.
        private int unpackHead(int at) {
            if (word(in, at) != TOKEN_MARK) {
                return fail(4, at);
            }
            if (stop - at < 5) {
                return fail(1, stop);
            }
            flags = in[at + 4] & 255;
            if (!areFlags(flags)) {
                return fail(5, at + 4);
            }
            if (stop - at < 6) {
                return fail(1, stop);
            }
            int k = (in[at + 5] & 255) >> 4;
            if ((in[at + 5] & 15) != 0 || k < 4 || k > 7) {
                return fail(5, at + 5);
            }
            int headEnd = at + 6 + ((flags & SIZED) != 0 ? 8 : 0) + ((flags & KEYED) != 0 ? 4 : 0);
            if (headEnd >= stop) {
                return fail(1, stop);
            }
            if ((in[headEnd] & 255) != (narrowSum(in, at + 4, headEnd, 0) >>> 8 & 255)) {
                return fail(6, headEnd);
            }
            blockMost = 1 << 8 + 2 * k;
            contentBegin = result.count;
            return fail(0, headEnd + 1);
        }

        // Leaves in place where the bytes 0 behind the blocks end.
        private int unpackBlocks(int from) {
            int at = from;
            for (int turn = from; turn <= stop; turn++) {
                if (stop - at < 4) {
                    return fail(1, stop);
                }
                int told = word(in, at);
                int m = told & 0x7FFFFFFF;
                if (told == 0) {
                    return fail(0, at + 4);
                }
                if (m > blockMost) {
                    return fail(7, at);
                }
                int begun = at + 4;
                int sumSize = (flags & BLOCK_SUMS) != 0 ? 4 : 0;
                if (stop - begun < m + sumSize) {
                    return fail(1, stop);
                }
                if (sumSize > 0 && word(in, begun + m) != narrowSum(in, begun, begun + m, 0)) {
                    return fail(8, begun + m);
                }
                int limit = Math.min(most, result.count + blockMost);
                int base = (flags & ALONE) != 0 ? result.count : contentBegin;
                int fault = told < 0 ? unpackPlain(begun, m, limit) : unpackBlock(begun, begun + m, base, limit);
                if (fault != 0) {
                    return fault == 1 ? 9 : fault;
                }
                at = begun + m + sumSize;
            }
            return fail(1, stop);
        }

        private int unpackPlain(int at, int m, int limit) {
            int can = limit - result.count;
            if (m > can) {
                return fail(3, at + can);
            }
            result.addPart(in, at, m);
            return 0;
        }

        private int unpackEnd(int from, int sizeAt) {
            int at = from;
            if ((flags & CONTENT_SUM) != 0) {
                if (stop - at < 4) {
                    return fail(1, stop);
                }
                if (word(in, at) != narrowSum(result.bytes, contentBegin, result.count, 0)) {
                    return fail(10, at);
                }
                at += 4;
            }
            if ((flags & SIZED) != 0 && number(in, sizeAt, 8) != result.count - contentBegin) {
                return fail(11, sizeAt);
            }
            return fail(0, at);
        }
    }

    /** II. TAGS: blocks and streams, written and read. */
    private static final class Tags {
        private static final int WINDOW = 65535;
        private static final int NEAR = 2048;

        private final int[] settings;
        private final Finder finder;
        private final Row packed = new Row();
        private byte[] in;
        private int stop;
        private Row result;
        private int most;
        private long length;
        int place;

        Tags(int[] settingsOfAll, Finder finderOfAll) {
            settings = settingsOfAll;
            finder = finderOfAll;
        }

        static boolean isMark(byte[] d, int at, int end) {
            if (end - at < TAG_MARK.length) {
                return false;
            }
            for (int i = 0; i < TAG_MARK.length; i++) {
                if (d[at + i] != TAG_MARK[i]) {
                    return false;
                }
            }
            return true;
        }

        void packAlone(Row out, Row from) {
            finder.data.become(from);
            finder.begin(settings[WAY], 4, WINDOW);
            packBlock(out);
        }

        private void packBlock(Row out) {
            int n = finder.data.count;
            packLength(out, n);
            finder.lay(n);
            finder.go(0, n, n, n - 4);
            int at = 0;
            for (int i = 0; i < finder.found; i++) {
                packLiterals(out, at, finder.literals[i]);
                packCopies(out, finder.lengths[i], finder.distances[i]);
                at += finder.literals[i] + finder.lengths[i];
            }
            packLiterals(out, at, finder.tail);
        }

        private static void packLength(Row out, int n) {
            int rest = n;
            for (int turn = 0; turn < 4 && rest >= 128; turn++) {
                out.add(rest & 127 | 128);
                rest >>>= 7;
            }
            out.add(rest);
        }

        private void packLiterals(Row out, int at, int n) {
            if (n == 0) {
                return;
            }
            int told = n - 1;
            if (told < 60) {
                out.add(told << 2);
            } else {
                int size = told < 256 ? 1 : 2;
                out.add(59 + size << 2);
                out.addNumber(told, size);
            }
            out.addPart(finder.data.bytes, at, n);
        }

        private static void packCopies(Row out, int length, int distance) {
            boolean near = distance < NEAR;
            int left = length;
            for (int turn = 0; turn < length && left > 0; turn++) {
                int n = firstCopy(left, near);
                if (isShort(n, near)) {
                    out.add(1 | n - 4 << 2 | distance >> 8 << 5);
                    out.add(distance);
                } else {
                    out.add(2 | n - 1 << 2);
                    out.addNumber(distance, 2);
                }
                left -= n;
            }
        }

        private static boolean isShort(int n, boolean near) {
            return near && n >= 4 && n <= 11;
        }

        // The longest copy with which the fewest bytes in all can still be reached.
        private static int firstCopy(int length, boolean near) {
            int least = fewest(length, near);
            for (int n = Math.min(64, length); n > 1; n--) {
                if ((isShort(n, near) ? 2 : 3) + fewest(length - n, near) == least) {
                    return n;
                }
            }
            return 1;
        }

        // One short copy at most is worth its bytes: two of them reach less far than a long one.
        private static int fewest(int length, boolean near) {
            int longOnes = 3 * ((length + 63) / 64);
            if (!near || length < 4) {
                return longOnes;
            }
            return Math.min(longOnes, 2 + 3 * ((Math.max(0, length - 11) + 63) / 64));
        }

        void packStream(Row out, Row from) {
            out.addPart(TAG_MARK, 0, TAG_MARK.length);
            Row data = finder.data;
            data.clear();
            finder.begin(settings[WAY], 4, WINDOW);
            int step = settings[CUT];
            for (int at = 0; step > 0 && at < from.count && !out.burst; at += step) {
                int n = Math.min(step, from.count - at);
                finder.unlay(0);
                data.clear();
                data.addPart(from.bytes, at, n);
                packed.clear();
                packBlock(packed);
                boolean plain = packed.count >= n;
                addChunk(out, plain ? data : packed, plain ? 1 : 0);
                if (settings[SPARE] > 0) {
                    out.addNumber(settings[SPARE] << 8 | 254, 4);
                    out.addSame(0, settings[SPARE]);
                }
            }
        }

        private void addChunk(Row out, Row block, int chunkKind) {
            Row data = finder.data;
            out.addNumber(block.count + 4 << 8 | chunkKind, 4);
            out.addNumber(maskedSum(polynomialSum(data.bytes, 0, data.count)), 4);
            out.addPart(block.bytes, 0, block.count);
        }

        private int fail(int fault, int where) {
            place = where;
            return fault;
        }

        private void begin(Row from, Row into, int mostOfAll) {
            in = from.bytes;
            stop = from.count;
            result = into;
            most = mostOfAll;
            place = stop;
        }

        int unpackAlone(Row from, Row into, int mostOfAll) {
            begin(from, into, mostOfAll);
            return unpackBlock(0, stop, most);
        }

        private int unpackBlock(int from, int end, int longest) {
            int fault = unpackLength(from, end, longest);
            if (fault != 0) {
                return fault;
            }
            int base = result.count;
            int at = place;
            for (int turn = from; turn < end && at < end; turn++) {
                int tag = in[at] & 255;
                int behind = bytesBehind(tag);
                if (end - at - 1 < behind) {
                    return fail(1, end);
                }
                long told = number(in, at + 1, behind);
                long n = lengthOf(tag, told);
                boolean copy = (tag & 3) != 0;
                long distance = (tag & 3) == 1 ? told + (tag >> 5 << 8) : told;
                if (copy && (distance == 0 || distance > result.count - base)) {
                    return fail(4, at);
                }
                if (n > length - (result.count - base)) {
                    return fail(5, at);
                }
                at += 1 + behind;
                if (copy) {
                    result.copyBack((int) distance, (int) n, base, result);
                } else if (n > end - at) {
                    return fail(1, end);
                } else {
                    result.addPart(in, at, (int) n);
                    at += (int) n;
                }
            }
            return result.count - base < length ? fail(6, end) : fail(0, end);
        }

        // Leaves LENGTH in length, and in place where it ends.
        private int unpackLength(int from, int end, int longest) {
            length = 0;
            int at = from;
            boolean more = true;
            for (int i = 0; i < 5 && more; i++) {
                if (at >= end) {
                    return fail(1, end);
                }
                int v = in[at++] & 255;
                if (i == 4 && v > 15) {
                    return fail(2, from);
                }
                length |= (v & 127L) << 7 * i;
                more = v > 127;
            }
            return length > longest ? fail(3, from) : fail(0, at);
        }

        private static int bytesBehind(int tag) {
            switch (tag & 3) {
                case 0: return Math.max(0, (tag >> 2) - 59);
                case 1: return 1;
                case 2: return 2;
                default: return 4;
            }
        }

        private static long lengthOf(int tag, long told) {
            int m = tag >> 2;
            switch (tag & 3) {
                case 0: return m < 60 ? m + 1 : told + 1;
                case 1: return m % 8 + 4;
                default: return m + 1;
            }
        }

        int unpackStream(Row from, Row into, int mostOfAll) {
            begin(from, into, mostOfAll);
            int at = 0;
            for (int turn = 0; turn < stop && at < stop; turn++) {
                int chunkKind = in[at] & 255;
                if (at == 0 && chunkKind != 255) {
                    return fail(8, at);
                }
                if (chunkKind >= 2 && chunkKind <= 127) {
                    return fail(9, at);
                }
                int chunkSize = stop - at < 4 ? stop : (int) number(in, at + 1, 3);
                if (stop - at - 4 < chunkSize) {
                    return fail(7, stop);
                }
                if (chunkKind == 255 && (chunkSize != 6 || !isMark(in, at, stop))) {
                    return fail(8, at);
                }
                if (chunkKind < 2) {
                    int fault = unpackChunk(at, chunkKind, chunkSize);
                    if (fault != 0) {
                        return fault;
                    }
                }
                at += 4 + chunkSize;
            }
            return fail(0, stop);
        }

        private int unpackChunk(int at, int chunkKind, int chunkSize) {
            if (chunkSize < 4 || chunkKind == 1 && chunkSize > MOST_BYTES + 4) {
                return fail(10, at);
            }
            int base = result.count;
            int can = most - base;
            int end = at + 4 + chunkSize;
            if (chunkKind == 0) {
                int fault = unpackBlock(at + 8, end, Math.min(MOST_BYTES, can));
                if (fault != 0) {
                    return fault == 1 ? 12 : fault;
                }
            } else if (chunkSize - 4 > can) {
                return fail(3, at + 8 + can);
            } else {
                result.addPart(in, at + 8, chunkSize - 4);
            }
            int sum = maskedSum(polynomialSum(result.bytes, base, result.count));
            return sum == word(in, at + 4) ? 0 : fail(11, at + 4);
        }
    }

    /** A STREAM that is read from its END down. */
    private static final class BitSource {
        private byte[] in;
        private int begun;
        int left;

        // False when it has no byte, or the last one is 0.
        boolean begin(byte[] d, int from, int end) {
            in = d;
            begun = from;
            left = 0;
            if (end <= from || d[end - 1] == 0) {
                return false;
            }
            left = 8 * (end - from - 1) + highestBit(d[end - 1] & 255);
            return true;
        }

        // The n highest bits that are left; those below the first one are 0.
        long peek(int n) {
            int low = left > n ? left - n : 0;
            int bits = left - low;
            if (bits <= 0) {
                return 0;
            }
            int first = low >> 3;
            int last = left - 1 >> 3;
            long v = 0;
            for (int i = last; i >= first; i--) {
                v = v << 8 | in[begun + i] & 255;
            }
            return (v >>> (low & 7) & (1L << bits) - 1) << n - bits;
        }

        // The caller has looked whether so many are left.
        long take(int n) {
            long v = peek(n);
            left -= n;
            return v;
        }
    }

    /** A SHARE and the places, numbers and states that follow from it; one symbol alone has order 0. */
    private static final class Share {
        int order;
        private final int symbols;
        private final int[] points;
        private final int[] masses;
        private final int[] mostBits;
        private final int[] starts;
        private final int[] used;
        private final int[] symbolAt;
        private final int[] numberAt;
        private final int[] placeOf;
        private byte[] in;
        private int bitAt;
        private int bitEnd;

        Share(int greatestOrder, int symbolsInAll) {
            symbols = symbolsInAll;
            points = new int[symbolsInAll];
            masses = new int[symbolsInAll];
            mostBits = new int[symbolsInAll];
            starts = new int[symbolsInAll];
            used = new int[symbolsInAll];
            symbolAt = new int[1 << greatestOrder];
            numberAt = new int[1 << greatestOrder];
            placeOf = new int[1 << greatestOrder];
        }

        void become(int[] pointsOfAll, int orderNow) {
            order = orderNow;
            System.arraycopy(pointsOfAll, 0, points, 0, symbols);
            lay();
        }

        void becomeAlone(int symbol) {
            order = 0;
            Arrays.fill(points, 0);
            points[symbol] = 1;
            lay();
        }

        // Finds places and numbers by the points.
        void lay() {
            int all = 1 << order;
            int high = all - 1;
            int start = 0;
            for (int s = 0; s < symbols; s++) {
                masses[s] = points[s] < 0 ? 1 : points[s];
                starts[s] = start;
                used[s] = 0;
                mostBits[s] = order;
                for (int half = masses[s] >> 1; half > 0; half >>= 1) {
                    mostBits[s]--;
                }
                start += masses[s];
                if (points[s] < 0) {
                    symbolAt[high--] = s;
                }
            }
            int step = (all >> 1) + (all >> 3) + 3;
            int at = 0;
            for (int s = 0; s < symbols; s++) {
                for (int i = 0; i < points[s]; i++) {
                    symbolAt[at] = s;
                    at = at + step & all - 1;
                    for (int turn = 0; turn < all && at > high; turn++) {
                        at = at + step & all - 1;
                    }
                }
            }
            for (int p = 0; p < all; p++) {
                int s = symbolAt[p];
                numberAt[p] = masses[s] + used[s];
                placeOf[starts[s] + used[s]] = p;
                used[s]++;
            }
        }

        boolean holds(int[] counts) {
            for (int s = 0; s < counts.length; s++) {
                if (counts[s] > 0 && (s >= symbols || points[s] == 0)) {
                    return false;
                }
            }
            return true;
        }

        int symbolOf(int state) {
            return symbolAt[state];
        }

        int bitsBehind(int state) {
            int bits = mostBits[symbolAt[state]];
            return numberAt[state] >> order - bits + 1 > 0 ? bits - 1 : bits;
        }

        int baseBehind(int state) {
            return (numberAt[state] << bitsBehind(state)) - (1 << order);
        }

        int lowestPlace(int symbol) {
            return placeOf[starts[symbol]];
        }

        // How many bits lead from a symbol's place to a state behind it.
        int bitsAhead(int state, int symbol) {
            int bits = mostBits[symbol];
            return state + (1 << order) >> bits < masses[symbol] ? bits - 1 : bits;
        }

        int placeAhead(int state, int symbol, int bits) {
            return placeOf[starts[symbol] + (state + (1 << order) >> bits) - masses[symbol]];
        }

        // What a ROW OF STATES costs in bits.
        int costOf(int[] row, int n) {
            int state = lowestPlace(row[n - 1]);
            int cost = order;
            for (int i = n - 2; i >= 0; i--) {
                int bits = bitsAhead(state, row[i]);
                cost += bits;
                state = placeAhead(state, row[i], bits);
            }
            return cost;
        }

        // Finds the points alone: not every share that is tried is worth its places.
        void takeCounts(int[] counts, int total, int orderNow) {
            order = orderNow;
            int lack = 1 << order;
            for (int s = 0; s < symbols; s++) {
                int c = counts[s] << order;
                points[s] = c == 0 ? 0 : c < total ? -1 : c / total;
                lack -= points[s] < 0 ? 1 : points[s];
            }
            giveRest(counts, total, lack);
            takeExcess(-lack);
        }

        private void giveRest(int[] counts, int total, int lack) {
            int left = lack;
            int rest = total;
            int symbol = -1;
            for (int turn = 0; turn < 4 << order && left > 0; turn++) {
                int next = -1;
                int nextRest = -1;
                for (int s = 0; s < symbols; s++) {
                    int cutOff = (counts[s] << order) % total;
                    boolean later = cutOff < rest || cutOff == rest && s > symbol;
                    if (points[s] > 0 && later && cutOff > nextRest) {
                        next = s;
                        nextRest = cutOff;
                    }
                }
                if (next >= 0) {
                    points[next]++;
                    left--;
                }
                rest = next >= 0 ? nextRest : total;
                symbol = next;
            }
        }

        private void takeExcess(int excess) {
            for (int i = 0; i < excess; i++) {
                int most = 0;
                for (int s = 1; s < symbols; s++) {
                    if (points[s] > points[most]) {
                        most = s;
                    }
                }
                points[most]--;
            }
        }

        void tell(Row out) {
            out.addBits(order - 5, 4);
            int lack = 1 << order;
            int width = order;
            for (int s = 0; s < symbols && lack > 0; s++) {
                for (; width > 0 && lack + 1 < 1 << width; width--) {
                    continue;
                }
                int u = points[s] + 1;
                int few = (2 << width) - 2 - lack;
                out.addBits(u >= 1 << width ? u + few : u, u < few ? width : width + 1);
                lack -= points[s] < 0 ? 1 : points[s];
                if (points[s] == 0) {
                    int zeros = zerosBehind(s);
                    for (int i = 0; i < zeros / 3; i++) {
                        out.addBits(3, 2);
                    }
                    out.addBits(zeros % 3, 2);
                    s += zeros;
                }
            }
            out.endBits();
        }

        private int zerosBehind(int symbol) {
            int n = 0;
            for (int s = symbol + 1; s < symbols && points[s] == 0; s++) {
                n++;
            }
            return n;
        }

        // The next n bits, -1 when not so many are there.
        private int takeBits(int n) {
            if (bitEnd - bitAt < n) {
                return -1;
            }
            int v = 0;
            for (int i = 0; i < n; i++) {
                int bit = bitAt + i;
                v |= (in[bit >> 3] >> (bit & 7) & 1) << i;
            }
            bitAt += n;
            return v;
        }

        // Reads a SHARE TOLD: where it ends, -1 when it is WRONG.
        int hear(byte[] d, int from, int end, int greatest) {
            in = d;
            bitAt = 8 * from;
            bitEnd = 8 * end;
            int told = takeBits(4);
            if (told < 0 || told + 5 > greatest) {
                return -1;
            }
            order = told + 5;
            Arrays.fill(points, 0);
            int lack = 1 << order;
            int width = order;
            for (int s = 0; s < symbols && lack > 0; s++) {
                for (; width > 0 && lack + 1 < 1 << width; width--) {
                    continue;
                }
                int u = takeBits(width);
                int few = (2 << width) - 2 - lack;
                if (u >= few) {
                    int bit = takeBits(1);
                    u = bit < 0 ? -1 : u | bit << width;
                    u = u >= 1 << width ? u - few : u;
                }
                if (u < 0) {
                    return -1;
                }
                points[s] = u - 1;
                lack -= u == 0 ? 1 : u - 1;
                int more = u == 1 ? 3 : 0;
                for (int turn = 0; turn < symbols && more == 3; turn++) {
                    more = takeBits(2);
                    s += more;
                    if (more < 0 || s >= symbols) {
                        return -1;
                    }
                }
            }
            if (lack > 0) {
                return -1;
            }
            lay();
            return bitAt + 7 >> 3;
        }
    }

    /** CODES of literals: made by counts or heard, described, and used both ways. */
    private static final class Codes {
        private static final int SYMBOLS = 256;
        private static final int LONGEST = 11;

        private final int[] lengths = new int[SYMBOLS];
        private final int[] codes = new int[SYMBOLS];
        private final int[] cells = new int[1 << LONGEST];
        private int greatest;
        private final int[] weights = new int[SYMBOLS];
        private final int[] weightCounts = new int[LONGEST + 1];
        private final Share weightShare = new Share(6, LONGEST + 1);
        private final Row orderFive = new Row();
        private final Row orderSix = new Row();
        private final BitSource source = new BitSource();
        // KNOTS: the symbols' ones first, then the sums, both in rising order of amounts.
        private final int[] order = new int[SYMBOLS];
        private final int[] amounts = new int[2 * SYMBOLS];
        private final int[] parents = new int[2 * SYMBOLS];
        private int leafAt;
        private int leafEnd;
        private int sumAt;
        private int sumEnd;

        // LENGTHS BY COUNTS; at least two counts are above 0.
        void becomeByCounts(int[] counts) {
            greatest = LONGEST + 1;
            for (int halved = 0; halved < 31 && greatest > LONGEST; halved++) {
                sortLeaves(counts, halved);
                joinKnots();
                findLengths();
            }
        }

        private static int halvedCount(int count, int times) {
            // Halves rounded up again and again are the same as one division rounded up.
            return count + (1 << times) - 1 >> times;
        }

        private void sortLeaves(int[] counts, int halved) {
            leafEnd = 0;
            for (int s = 0; s < SYMBOLS; s++) {
                if (counts[s] > 0) {
                    int amount = halvedCount(counts[s], halved);
                    int at = leafEnd;
                    for (; at > 0 && amounts[at - 1] > amount; at--) {
                        amounts[at] = amounts[at - 1];
                        order[at] = order[at - 1];
                    }
                    amounts[at] = amount;
                    order[at] = s;
                    leafEnd++;
                }
            }
        }

        private void joinKnots() {
            leafAt = 0;
            sumAt = leafEnd;
            sumEnd = leafEnd;
            for (int i = 1; i < leafEnd; i++) {
                int one = takeLeast();
                int other = takeLeast();
                parents[one] = sumEnd;
                parents[other] = sumEnd;
                amounts[sumEnd] = amounts[one] + amounts[other];
                sumEnd++;
            }
        }

        private int takeLeast() {
            boolean leaf = leafAt < leafEnd && (sumAt >= sumEnd || amounts[leafAt] <= amounts[sumAt]);
            return leaf ? leafAt++ : sumAt++;
        }

        private void findLengths() {
            Arrays.fill(lengths, 0);
            greatest = 0;
            // The amounts are done with: they become the depths, from the last sum down.
            amounts[sumEnd - 1] = 0;
            for (int i = sumEnd - 2; i >= 0; i--) {
                amounts[i] = amounts[parents[i]] + 1;
                if (i < leafEnd) {
                    lengths[order[i]] = amounts[i];
                    greatest = Math.max(greatest, amounts[i]);
                }
            }
        }

        void lay() {
            int cell = 0;
            for (int weight = 1; weight <= greatest; weight++) {
                int span = 1 << weight - 1;
                int length = greatest + 1 - weight;
                for (int s = 0; s < SYMBOLS; s++) {
                    if (lengths[s] == length && cell + span <= cells.length) {
                        codes[s] = cell >> weight - 1;
                        Arrays.fill(cells, cell, cell + span, length << 8 | s);
                        cell += span;
                    }
                }
            }
        }

        // Appends THE DESCRIPTION; false when there is none.
        boolean describe(Row out) {
            int k = SYMBOLS - 1;
            for (; k > 0 && lengths[k] == 0; k--) {
                weights[k] = 0;
            }
            Arrays.fill(weightCounts, 0);
            boolean alike = true;
            for (int s = 0; s < k; s++) {
                weights[s] = lengths[s] == 0 ? 0 : greatest + 1 - lengths[s];
                weightCounts[weights[s]]++;
                alike = alike && weights[s] == weights[0];
            }
            Row told = orderFive;
            boolean byStates = k >= 2 && !alike;
            if (byStates) {
                describeByStates(orderFive, k, 5);
                describeByStates(orderSix, k, 6);
                told = orderSix.count < orderFive.count ? orderSix : orderFive;
                byStates = told.count < 128;
            }
            if (k <= 128 && (!byStates || (k + 1) / 2 <= told.count)) {
                describeDirectly(out, k);
                return true;
            }
            if (byStates) {
                out.add(told.count);
                out.addPart(told.bytes, 0, told.count);
            }
            return byStates;
        }

        private void describeDirectly(Row out, int k) {
            out.reserve(1 + k);
            out.addBits(127 + k, 8);
            for (int i = 0; i < k; i += 2) {
                out.addBits(weights[i] << 4 | (i + 1 < k ? weights[i + 1] : 0), 8);
            }
        }

        private void describeByStates(Row out, int k, int shareOrder) {
            out.clear();
            out.reserve(SHARE_ROOM + k);
            weightShare.takeCounts(weightCounts, k, shareOrder);
            weightShare.lay();
            weightShare.tell(out);
            int now = weightShare.lowestPlace(weights[k - 1]);
            int other = weightShare.lowestPlace(weights[k - 2]);
            for (int i = k - 3; i >= 0; i--) {
                int bits = weightShare.bitsAhead(now, weights[i]);
                out.addBits(now, bits);
                int moved = weightShare.placeAhead(now, weights[i], bits);
                now = other;
                other = moved;
            }
            // The one that is due next stands for v_1, the one that moved last for v_0.
            out.addBits(now, shareOrder);
            out.addBits(other, shareOrder);
            out.addBits(1, 1);
            out.endBits();
        }

        // Reads a DESCRIPTION: where it ends, -1 when it is WRONG.
        int hear(byte[] d, int from, int end) {
            if (from >= end) {
                return -1;
            }
            int x = d[from] & 255;
            int direct = x - 127;
            int after = from + 1 + (direct > 0 ? (direct + 1) / 2 : x);
            if (after > end) {
                return -1;
            }
            if (direct <= 0) {
                int n = hearByStates(d, from + 1, after);
                return n > 0 && complete(n) ? after : -1;
            }
            for (int i = 0; i < direct; i++) {
                int two = d[from + 1 + i / 2] & 255;
                weights[i] = i % 2 == 0 ? two >> 4 : two & 15;
            }
            return complete(direct) ? after : -1;
        }

        // How many weights come, 0 when they are WRONG.
        private int hearByStates(byte[] d, int from, int end) {
            int at = weightShare.hear(d, from, end, 6);
            if (at < 0 || !source.begin(d, at, end) || source.left < 2 * weightShare.order) {
                return 0;
            }
            int now = (int) source.take(weightShare.order);
            int other = (int) source.take(weightShare.order);
            for (int n = 0; n < SYMBOLS - 2; n++) {
                weights[n] = weightShare.symbolOf(now);
                int bits = weightShare.bitsBehind(now);
                if (source.left < bits) {
                    weights[n + 1] = weightShare.symbolOf(other);
                    return n + 2;
                }
                int moved = weightShare.baseBehind(now) + (int) source.take(bits);
                now = other;
                other = moved;
            }
            return 0;
        }

        // Finds the weight behind the n that were told, and with it the codes; false when they are WRONG.
        private boolean complete(int n) {
            int sum = 0;
            int ones = 0;
            for (int i = 0; i < n; i++) {
                sum += weights[i] > 0 ? 1 << weights[i] - 1 : 0;
                ones += weights[i] == 1 ? 1 : 0;
            }
            if (sum == 0 || sum >= 1 << LONGEST) {
                return false;
            }
            greatest = highestBit(sum) + 1;
            int lack = (1 << greatest) - sum;
            ones += lack == 1 ? 1 : 0;
            if ((lack & lack - 1) != 0 || ones < 2) {
                return false;
            }
            weights[n] = highestBit(lack) + 1;
            Arrays.fill(lengths, 0);
            for (int i = 0; i <= n; i++) {
                lengths[i] = weights[i] == 0 ? 0 : greatest + 1 - weights[i];
            }
            lay();
            return true;
        }

        // Reads a STREAM of n symbols; false when these are not just its bits. Only those that the caller
        // has reserved room for are kept.
        boolean unpack(byte[] d, int from, int end, int n, Row into) {
            if (!source.begin(d, from, end)) {
                return false;
            }
            for (int i = 0; i < n && source.left >= 0; i++) {
                int cell = cells[(int) source.peek(greatest)];
                if (into.count < into.bytes.length) {
                    into.bytes[into.count++] = (byte) cell;
                }
                source.left -= cell >> 8;
            }
            return source.left == 0;
        }

        // Appends a STREAM of the bytes from .. to.
        void pack(Row out, byte[] d, int from, int to) {
            out.reserve(2 * (to - from) + 2);
            for (int i = to - 1; i >= from; i--) {
                int s = d[i] & 255;
                out.addBits(codes[s], lengths[s]);
            }
            out.addBits(1, 1);
            out.endBits();
        }

        // How many bytes that stream has; 0 when a byte has no code.
        int packedSize(byte[] d, int from, int to) {
            int bits = 0;
            for (int i = from; i < to; i++) {
                int length = lengths[d[i] & 255];
                if (length == 0) {
                    return 0;
                }
                bits += length;
            }
            return bits / 8 + 1;
        }
    }

    /** What a block of states leaves to the next one: CODES and TABLES (null: none) and the LATEST distances. */
    private static final class Stand {
        Codes codes;
        final Share[] tables = new Share[3];
        final long[] latest = {1, 4, 8};

        void clear() {
            codes = null;
            for (int i = 0; i < 3; i++) {
                tables[i] = null;
            }
            latest[0] = 1;
            latest[1] = 4;
            latest[2] = 8;
        }

        void become(Stand other) {
            codes = other.codes;
            for (int i = 0; i < 3; i++) {
                tables[i] = other.tables[i];
                latest[i] = other.latest[i];
            }
        }

        private long latestBy(int v, int literals) {
            int w = literals == 0 ? v + 1 : v;
            return w > 3 ? latest[0] - 1 : latest[w - 1];
        }

        // The distance that v tells behind so many literals; LATEST changes by it.
        long tellDistance(long v, int literals) {
            long distance = v > 3 ? v - 3 : latestBy((int) v, literals);
            long w = literals == 0 || v > 3 ? v + 1 : v;
            if (w > 2) {
                latest[2] = latest[1];
            }
            if (w > 1) {
                latest[1] = latest[0];
            }
            latest[0] = distance;
            return distance;
        }

        int leastFor(int distance, int literals) {
            for (int v = 1; v <= 3; v++) {
                if (latestBy(v, literals) == distance) {
                    return v;
                }
            }
            return distance + 3;
        }
    }

    /** THE DICTIONARY; one without content and ID is as none. */
    private static final class Dictionary {
        final Row content = new Row();
        final Stand stand = new Stand();
        int id;
        private Codes codes;
        private Share[] tables;

        void clear() {
            content.clear();
            stand.clear();
            id = 0;
        }

        // How many bytes of content it has, or what is wrong with it; then it must not be used.
        int hear(Row row) {
            byte[] d = row.bytes;
            int end = row.count;
            clear();
            if (end < 4 || word(d, 0) != FORMED_MARK) {
                content.become(row);
                return end;
            }
            if (end < 8) {
                return -1;
            }
            id = word(d, 4);
            makeParts();
            int at = codes.hear(d, 8, end);
            if (at < 0) {
                return -2;
            }
            at = hearTable(DISTANCES, d, at, end);
            at = hearTable(MATCH_LENGTHS, d, at, end);
            at = hearTable(LITERAL_LENGTHS, d, at, end);
            if (at < 0) {
                return -3;
            }
            stand.codes = codes;
            return hearLatest(d, at, end);
        }

        private void makeParts() {
            if (codes == null) {
                codes = new Codes();
                tables = newTables();
            }
        }

        static Share[] newTables() {
            Share[] made = new Share[3];
            for (int i = 0; i < 3; i++) {
                made[i] = new Share(GREATEST_ORDERS[i], LAST_SYMBOLS[i] + 1);
            }
            return made;
        }

        private int hearTable(int i, byte[] d, int at, int end) {
            stand.tables[i] = tables[i];
            return at < 0 ? -1 : tables[i].hear(d, at, end, GREATEST_ORDERS[i]);
        }

        private int hearLatest(byte[] d, int at, int end) {
            int left = end - at - 12;
            if (left < 0) {
                return -1;
            }
            for (int i = 0; i < 3; i++) {
                stand.latest[i] = number(d, at + 4 * i, 4);
                if (stand.latest[i] == 0 || stand.latest[i] > left) {
                    return -4;
                }
            }
            content.addPart(d, at + 12, left);
            return left;
        }
    }

    /** III. STATES, read. */
    private static final class Unpacker {
        private static final int SINGLE = 32;
        private static final int SUMMED = 4;

        private final Share[] known;
        private final Codes ownCodes = new Codes();
        private final Share[] ownTables = Dictionary.newTables();
        private final Stand now = new Stand();
        private final Row literals = new Row();
        private final BitSource source = new BitSource();
        private final int[] states = new int[3];
        private byte[] in;
        private int stop;
        private int at;
        private Row result;
        private int most;
        private Dictionary dictionary;
        private int[] counts;
        private int head;
        private long window;
        private int sizeAt;
        private int contentBegin;
        private int blockEnd;
        private int literalCount;
        private int literalAt;
        int place;

        Unpacker(Share[] knownOfAll) {
            known = knownOfAll;
        }

        private int fail(int fault, int where) {
            place = where;
            return fault;
        }

        int unpackFrames(Row from, Row into, int mostOfAll, Dictionary dictionaryNow, int[] countsOfAll) {
            in = from.bytes;
            stop = from.count;
            at = 0;
            result = into;
            most = mostOfAll;
            dictionary = dictionaryNow;
            counts = countsOfAll;
            Arrays.fill(counts, 0);
            int fault = fail(0, stop);
            boolean within = false;
            for (int turn = 0; turn <= stop && fault == 0 && (within || at < stop); turn++) {
                if (!within) {
                    int frames = counts[0];
                    fault = unpackBeginning();
                    within = counts[0] > frames;
                } else {
                    boolean last = stop - at >= 3 && (in[at] & 1) != 0;
                    fault = unpackBlockHead();
                    if (fault == 0 && blockEnd > 0) {
                        int begun = at;
                        boolean coded = at < blockEnd && (in[at] & 2) != 0;
                        literals.clear();
                        fault = coded ? unpackCoded() : unpackPlain();
                        fault = fault != 0 ? fault : unpackSequences(begun);
                        at = blockEnd;
                    }
                    if (fault == 0 && last) {
                        fault = unpackEnd();
                        within = false;
                    }
                }
            }
            counts[3] = result.count;
            return fault;
        }

        private int blockMost() {
            return window < MOST_OF_A_BLOCK ? (int) window : MOST_OF_A_BLOCK;
        }

        // Spare bytes, or a frame up to its first block.
        private int unpackBeginning() {
            if (isSpare(in, at, stop)) {
                int next = afterSpare(in, at, stop);
                at = next < 0 ? at : next;
                return next < 0 ? fail(1, stop) : 0;
            }
            if (stop - at < 4) {
                return fail(1, stop);
            }
            if (word(in, at) != STATE_MARK) {
                return fail(2, at);
            }
            at += 4;
            if (at >= stop) {
                return fail(1, stop);
            }
            counts[0]++;
            head = in[at] & 255;
            if ((head & 8) != 0) {
                return fail(3, at);
            }
            at++;
            contentBegin = result.count;
            now.become(dictionary.stand);
            int fault = (head & SINGLE) != 0 ? 0 : unpackWindow();
            fault = fault != 0 ? fault : unpackId();
            return fault != 0 ? fault : unpackSize();
        }

        private void tellWindow(long v) {
            // One of eight bytes has no sign: as a negative long it is larger than all that is compared with it.
            window = v < 0 ? 1L << 62 : v;
            counts[4] = window < GREATEST_INT ? (int) window : GREATEST_INT;
        }

        private int unpackWindow() {
            if (at >= stop) {
                return fail(1, stop);
            }
            int e = (in[at] & 255) >> 3;
            tellWindow((1L << 10 + e) + (1L << 7 + e) * (in[at] & 7));
            at++;
            return 0;
        }

        private int unpackId() {
            int n = (head & 3) == 3 ? 4 : head & 3;
            if (stop - at < n) {
                return fail(1, stop);
            }
            long id = number(in, at, n);
            if (id != 0 && id != (dictionary.id & 0xFFFFFFFFL)) {
                return fail(4, at);
            }
            at += n;
            return 0;
        }

        private int sizeBytes() {
            int f = head >> 6;
            return f > 0 ? 1 << f : (head & SINGLE) != 0 ? 1 : 0;
        }

        private long sizeTold() {
            int n = sizeBytes();
            return number(in, sizeAt, n) + (n == 2 ? 256 : 0);
        }

        private int unpackSize() {
            int n = sizeBytes();
            if (stop - at < n) {
                return fail(1, stop);
            }
            sizeAt = at;
            if ((head & SINGLE) != 0) {
                tellWindow(sizeTold());
            }
            at += n;
            return 0;
        }

        private int unpackEnd() {
            if ((head & SUMMED) != 0) {
                if (stop - at < 4) {
                    return fail(1, stop);
                }
                if (word(in, at) != (int) wideSum(result.bytes, contentBegin, result.count, 0)) {
                    return fail(8, at);
                }
                at += 4;
            }
            return sizeBytes() > 0 && sizeTold() != result.count - contentBegin ? fail(9, sizeAt) : 0;
        }

        // Does a block of kind 0 or 1; of one of kind 2 it leaves in blockEnd where it ends, else 0.
        private int unpackBlockHead() {
            blockEnd = 0;
            if (stop - at < 3) {
                return fail(1, stop);
            }
            counts[1]++;
            int told = (int) number(in, at, 3);
            int blockKind = told >> 1 & 3;
            int n = told >> 3;
            if (blockKind == 3) {
                return fail(5, at);
            }
            if (n > blockMost()) {
                return fail(6, at);
            }
            int bytes = blockKind == 1 ? 1 : n;
            if (stop - at - 3 < bytes) {
                return fail(1, stop);
            }
            if (blockKind != 2 && n > most - result.count) {
                return fail(7, at);
            }
            at += 3;
            if (blockKind == 2) {
                blockEnd = at + n;
                return 0;
            }
            if (blockKind == 1) {
                result.addSame(in[at], n);
            } else {
                result.addPart(in, at, n);
            }
            at += bytes;
            return 0;
        }

        // LITERALS with k 0 or 1.
        private int unpackPlain() {
            if (at >= blockEnd) {
                return fail(10, blockEnd);
            }
            int h = in[at] & 255;
            int l = h >> 2 & 3;
            int headSize = l % 2 == 0 ? 1 : l == 1 ? 2 : 3;
            if (blockEnd - at < headSize) {
                return fail(10, blockEnd);
            }
            int n = (int) (number(in, at, headSize) >> (headSize == 1 ? 3 : 4));
            if (n > blockMost()) {
                return fail(11, at);
            }
            at += headSize;
            boolean plain = (h & 3) == 0;
            int bytes = plain ? n : 1;
            if (blockEnd - at < bytes) {
                return fail(10, blockEnd);
            }
            literalCount = n;
            if (plain) {
                literals.addPart(in, at, n);
            } else {
                literals.addSame(in[at], Math.min(n, MOST_BYTES));
            }
            at += bytes;
            return 0;
        }

        // LITERALS with k 2 or 3.
        private int unpackCoded() {
            int begun = at;
            int k = in[at] & 3;
            int l = in[at] >> 2 & 3;
            int headSize = l < 2 ? 3 : l + 2;
            if (blockEnd - at < headSize) {
                return fail(10, blockEnd);
            }
            int width = l < 2 ? 10 : 4 * l + 6;
            long told = number(in, at, headSize) >> 4;
            int n = (int) told & (1 << width) - 1;
            int bytes = (int) (told >> width) & (1 << width) - 1;
            if (n > blockMost() || l > 0 && n < 3 * ((n + 3) / 4)) {
                return fail(11, begun);
            }
            if (k == 3 && now.codes == null) {
                return fail(13, begun);
            }
            at += headSize;
            if (blockEnd - at < bytes) {
                return fail(10, blockEnd);
            }
            int end = at + bytes;
            if (k == 2) {
                int after = ownCodes.hear(in, at, end);
                if (after < 0) {
                    return fail(12, at);
                }
                now.codes = ownCodes;
                at = after;
            }
            literalCount = n;
            // More than a row's bytes are never used: there is no room for them in the content.
            literals.reserve(Math.min(n, MOST_BYTES));
            return unpackStreams(end, n, l == 0 ? 1 : 4);
        }

        private int unpackStreams(int end, int n, int streams) {
            int numbersAt = at;
            if (streams == 4) {
                int sizes = 6;
                for (int i = 0; i < 3 && end - at >= 6; i++) {
                    sizes += (int) number(in, at + 2 * i, 2);
                }
                if (sizes > end - at) {
                    return fail(14, numbersAt);
                }
                at += 6;
            }
            int each = (n + streams - 1) / streams;
            for (int i = 0; i < streams; i++) {
                boolean last = i == streams - 1;
                int streamEnd = last ? end : at + (int) number(in, numbersAt + 2 * i, 2);
                if (!now.codes.unpack(in, at, streamEnd, last ? n - i * each : each, literals)) {
                    return fail(14, at);
                }
                at = streamEnd;
            }
            return 0;
        }

        private int unpackSequences(int literalsAt) {
            int x = at < blockEnd ? in[at] & 255 : 0;
            int size = x < 128 ? 1 : x < 255 ? 2 : 3;
            if (blockEnd - at < size) {
                return fail(10, blockEnd);
            }
            int n = size == 1 ? x : size == 2 ? 256 * (x - 128) + (in[at + 1] & 255)
                : (int) number(in, at + 1, 2) + 32512;
            at += size;
            if (n == 0 && at < blockEnd) {
                return fail(15, at);
            }
            int blockBegin = result.count;
            literalAt = 0;
            int fault = n == 0 ? 0 : unpackTables();
            int faultAt = n == 0 ? literalsAt : at;
            if (fault == 0 && n > 0) {
                fault = runSequences(n, blockBegin);
            }
            if (fault != 0) {
                return fault;
            }
            int left = literalCount - literalAt;
            fault = faultOfLength(left, blockBegin);
            if (fault != 0) {
                return fail(fault, faultAt);
            }
            result.addPart(literals.bytes, literalAt, left);
            return 0;
        }

        private int unpackTables() {
            if (at >= blockEnd) {
                return fail(10, blockEnd);
            }
            int modesAt = at;
            int modes = in[at] & 255;
            if ((modes & 3) != 0) {
                return fail(15, modesAt);
            }
            at++;
            int fault = 0;
            for (int i = 0; i < 3 && fault == 0; i++) {
                fault = unpackTable(i, modes >> 6 - 2 * i & 3, modesAt);
            }
            return fault;
        }

        private int unpackTable(int i, int mode, int modesAt) {
            if (mode == 3) {
                return now.tables[i] == null ? fail(16, modesAt) : 0;
            }
            now.tables[i] = mode == 0 ? known[i] : ownTables[i];
            if (mode == 1) {
                if (at >= blockEnd) {
                    return fail(10, blockEnd);
                }
                int symbol = in[at++] & 255;
                if (symbol > LAST_SYMBOLS[i]) {
                    return fail(16, modesAt);
                }
                ownTables[i].becomeAlone(symbol);
            } else if (mode == 2) {
                int after = ownTables[i].hear(in, at, blockEnd, GREATEST_ORDERS[i]);
                if (after < 0) {
                    return fail(16, modesAt);
                }
                at = after;
            }
            return 0;
        }

        // PLACE of its faults is where the stream begins.
        private int runSequences(int n, int blockBegin) {
            Share[] tables = now.tables;
            boolean there = source.begin(in, at, blockEnd);
            if (!there || source.left < tables[0].order + tables[1].order + tables[2].order) {
                return fail(17, at);
            }
            for (int i = 0; i < 3; i++) {
                states[i] = (int) source.take(tables[i].order);
            }
            for (int i = 0; i < n; i++) {
                int literal = tables[LITERAL_LENGTHS].symbolOf(states[LITERAL_LENGTHS]);
                int match = tables[MATCH_LENGTHS].symbolOf(states[MATCH_LENGTHS]);
                int bits = tables[DISTANCES].symbolOf(states[DISTANCES]);
                if (source.left < bits + MATCH_BITS[match] + LITERAL_BITS[literal] + (i + 1 < n ? bitsBehind() : 0)) {
                    return fail(17, at);
                }
                long v = (1L << bits) + source.take(bits);
                int length = MATCH_BASES[match] + (int) source.take(MATCH_BITS[match]);
                int before = LITERAL_BASES[literal] + (int) source.take(LITERAL_BITS[literal]);
                if (i + 1 < n) {
                    moveState(LITERAL_LENGTHS);
                    moveState(MATCH_LENGTHS);
                    moveState(DISTANCES);
                }
                long distance = now.tellDistance(v, before);
                int fault = faultOf(before, length, distance, blockBegin);
                if (fault != 0) {
                    return fail(fault, at);
                }
                result.addPart(literals.bytes, literalAt, before);
                result.copyBack((int) distance, length, contentBegin, dictionary.content);
                literalAt += before;
                counts[2]++;
            }
            return source.left > 0 ? fail(17, at) : 0;
        }

        private int bitsBehind() {
            int bits = 0;
            for (int i = 0; i < 3; i++) {
                bits += now.tables[i].bitsBehind(states[i]);
            }
            return bits;
        }

        private void moveState(int i) {
            Share table = now.tables[i];
            states[i] = table.baseBehind(states[i]) + (int) source.take(table.bitsBehind(states[i]));
        }

        private int faultOf(int before, int length, long distance, int blockBegin) {
            if (before > literalCount - literalAt) {
                return 19;
            }
            long so = result.count - contentBegin + before;
            boolean tooFar = distance <= so ? distance <= 0 || distance > window
                : distance > so + dictionary.content.count || so > window;
            if (tooFar) {
                return 18;
            }
            return faultOfLength(before + length, blockBegin);
        }

        private int faultOfLength(int more, int blockBegin) {
            if (result.count - blockBegin + more > blockMost()) {
                return 20;
            }
            return more > most - result.count ? 7 : 0;
        }
    }

    /** III. STATES, written. */
    private static final class Packer {
        private static final int SUMMED = 1;
        private static final int SIZED = 2;
        private static final int SINGLE = 4;
        private static final int NAMED = 8;
        // From so many literals on there are four streams.
        private static final int MANY = 1024;

        private final int[] settings;
        private final Finder finder;
        private final Share[] known;
        private final Codes[] ownCodes = {new Codes(), new Codes()};
        private final Share[] ownTables = Dictionary.newTables();
        private final Share[] otherTables = Dictionary.newTables();
        private final Stand now = new Stand();
        private final Stand next = new Stand();
        private final Row packed = new Row();
        private final Row literals = new Row();
        private final Row told = new Row();
        private final int[] byteCounts = new int[256];
        private final int[] symbolCounts = new int[53];
        private int[][] symbols = new int[3][0];
        private int[] numbers = new int[0];
        private int leastCost;
        private int wayOfLiterals;
        private final int[] modes = new int[3];
        final int[] counts = new int[13];

        Packer(int[] settingsOfAll, Finder finderOfAll, Share[] knownOfAll) {
            settings = settingsOfAll;
            finder = finderOfAll;
            known = knownOfAll;
        }

        private static int windowFor(int[] settings, int n) {
            return (settings[STATE_FLAGS] & SINGLE) != 0 ? n : 1 << 10 + settings[E];
        }

        // How many bytes of n a block stands for; at least 1, lest going on by them never ends.
        static int rowLength(int[] settings, int n) {
            int most = Math.min(MOST_OF_A_BLOCK, windowFor(settings, n));
            return Math.max(1, Math.min(settings[CUT], most));
        }

        void packFrame(Row out, Row from, Dictionary dictionary) {
            int n = from.count;
            Arrays.fill(counts, 0);
            packHead(out, n, dictionary.id);
            now.become(dictionary.stand);
            int ahead = dictionary.content.count;
            finder.data.become(dictionary.content);
            finder.data.addPart(from.bytes, 0, n);
            finder.begin(settings[WAY], settings[LEAST], windowFor(settings, n));
            int step = rowLength(settings, n);
            int at = 0;
            for (int turn = 0; turn <= n && !out.burst && (turn == 0 || at < n); turn++) {
                int end = Math.min(n, at + step);
                packBlock(out, ahead + at, ahead + end, end == n ? 1 : 0);
                at = end;
            }
            if ((settings[STATE_FLAGS] & SUMMED) != 0) {
                out.addNumber(wideSum(from.bytes, 0, n, 0), 4);
            }
        }

        private void packHead(Row out, int n, int id) {
            int flags = settings[STATE_FLAGS];
            boolean single = (flags & SINGLE) != 0;
            int f = 0;
            if (single || (flags & SIZED) != 0) {
                // Two bytes tell from 256 on more than is ever written.
                f = n >= 256 ? 1 : single ? 0 : 2;
            }
            int g = 0;
            if ((flags & NAMED) != 0 && id != 0) {
                g = id >>> 8 == 0 ? 1 : id >>> 16 == 0 ? 2 : 3;
            }
            out.addNumber(STATE_MARK, 4);
            out.add(f << 6 | (single ? 32 : 0) | ((flags & SUMMED) != 0 ? 4 : 0) | g);
            if (!single) {
                out.add(settings[E] << 3);
            }
            out.addNumber(id, g == 3 ? 4 : g);
            out.addNumber(f == 1 ? n - 256 : n, f > 0 ? 1 << f : single ? 1 : 0);
        }

        private void packBlock(Row out, int h, int end, int last) {
            Row data = finder.data;
            int n = end - h;
            if (n > 0 && areSame(data.bytes, h, end)) {
                out.addNumber(8L * n + 2 + last, 3);
                out.add(data.bytes[h]);
                counts[2]++;
                return;
            }
            boolean fewer = false;
            packed.clear();
            if (n > 0) {
                findSequences(h, end);
                next.become(now);
                packLiterals();
                // The number of sequences takes a byte at least: most rows that cannot be packed end here.
                if (packed.count + 1 < n) {
                    int modesAt = packNumber();
                    for (int i = 0; i < 3 && finder.found > 0; i++) {
                        packTable(i);
                    }
                    packStream(modesAt);
                    fewer = !packed.burst && packed.count < n;
                }
            }
            if (fewer) {
                now.become(next);
                countPacked();
            } else {
                counts[1]++;
            }
            out.addNumber(8L * (fewer ? packed.count : n) + (fewer ? 4 : 0) + last, 3);
            out.addPart(fewer ? packed.bytes : data.bytes, fewer ? 0 : h, fewer ? packed.count : n);
        }

        private void countPacked() {
            counts[3]++;
            counts[4] += finder.found;
            counts[5 + wayOfLiterals]++;
            for (int i = 0; i < 3 && finder.found > 0; i++) {
                counts[9 + modes[i]]++;
            }
        }

        private static boolean areSame(byte[] d, int from, int to) {
            for (int i = from + 1; i < to; i++) {
                if (d[i] != d[from]) {
                    return false;
                }
            }
            return true;
        }

        private void findSequences(int h, int end) {
            finder.lay(end);
            finder.go(h, end, end, end - settings[LEAST]);
            literals.clear();
            int at = h;
            for (int i = 0; i < finder.found; i++) {
                literals.addPart(finder.data.bytes, at, finder.literals[i]);
                at += finder.literals[i] + finder.lengths[i];
            }
            literals.addPart(finder.data.bytes, at, finder.tail);
            Arrays.fill(byteCounts, 0);
            for (int i = 0; i < literals.count; i++) {
                byteCounts[literals.bytes[i] & 255]++;
            }
        }

        private void packLiterals() {
            int n = literals.count;
            int head = n < 32 ? 1 : n < 4096 ? 2 : 3;
            boolean same = areSame(literals.bytes, 0, n);
            Codes fresh = now.codes == ownCodes[0] ? ownCodes[1] : ownCodes[0];
            int least = head + n;
            wayOfLiterals = 0;
            if (n > 0 && same && head + 1 < least) {
                least = head + 1;
                wayOfLiterals = 1;
            }
            int size = now.codes == null ? 0 : codedSize(now.codes, 0);
            if (size > 0 && size < least) {
                least = size;
                wayOfLiterals = 3;
            }
            told.clear();
            if (!same) {
                fresh.becomeByCounts(byteCounts);
                size = fresh.describe(told) ? codedSize(fresh, told.count) : 0;
                if (size > 0 && size < least) {
                    least = size;
                    wayOfLiterals = 2;
                    fresh.lay();
                    next.codes = fresh;
                }
            }
            if (wayOfLiterals > 1) {
                packCoded(least);
                return;
            }
            int form = head == 1 ? 0 : head == 2 ? 4 : 12;
            packed.addNumber(n << (head == 1 ? 3 : 4) | form | wayOfLiterals, head);
            packed.addPart(literals.bytes, 0, wayOfLiterals == 0 ? n : 1);
        }

        // How many bytes LITERALS by these codes take, head and all; 0 when they cannot be told so.
        private int codedSize(Codes codes, int described) {
            int n = literals.count;
            int streams = n < MANY ? 1 : 4;
            int each = (n + streams - 1) / streams;
            int bytes = described + (streams == 4 ? 6 : 0);
            for (int i = 0; i < streams; i++) {
                int size = codes.packedSize(literals.bytes, i * each, Math.min(n, (i + 1) * each));
                if (size == 0) {
                    return 0;
                }
                bytes += size;
            }
            if (streams == 1) {
                return bytes < 1024 ? bytes + 3 : 0;
            }
            return bytes + (n < 16384 && bytes < 16384 ? 4 : 5);
        }

        private void packCoded(int size) {
            int n = literals.count;
            int streams = n < MANY ? 1 : 4;
            int each = (n + streams - 1) / streams;
            int head = streams == 1 ? 3 : n < 16384 && size - 4 < 16384 ? 4 : 5;
            int l = streams == 1 ? 0 : head - 2;
            int width = streams == 1 ? 10 : 4 * l + 6;
            packed.addNumber((long) (size - head) << 4 + width | (long) n << 4 | l << 2 | wayOfLiterals, head);
            if (wayOfLiterals == 2) {
                packed.addPart(told.bytes, 0, told.count);
            }
            for (int i = 0; i < streams - 1; i++) {
                packed.addNumber(next.codes.packedSize(literals.bytes, i * each, (i + 1) * each), 2);
            }
            for (int i = 0; i < streams; i++) {
                next.codes.pack(packed, literals.bytes, i * each, Math.min(n, (i + 1) * each));
            }
        }

        // The number of sequences and, if there are some, their symbols; answers where MODES stand.
        private int packNumber() {
            int n = finder.found;
            // Two bytes are enough: 16,384 bytes have no 32,512 matches.
            if (n >= 128) {
                packed.add(128 + (n >> 8));
            }
            packed.add(n);
            int modesAt = packed.count;
            if (n > 0) {
                packed.add(0);
                tellSymbols();
            }
            return modesAt;
        }

        private void tellSymbols() {
            int n = finder.found;
            if (numbers.length < n) {
                int grown = Math.max(n, finder.lengths.length);
                numbers = new int[grown];
                symbols = new int[3][grown];
            }
            for (int i = 0; i < n; i++) {
                int before = finder.literals[i];
                numbers[i] = next.leastFor(finder.distances[i], before);
                next.tellDistance(numbers[i], before);
                symbols[LITERAL_LENGTHS][i] = symbolFor(before, LITERAL_BASES);
                symbols[DISTANCES][i] = highestBit(numbers[i]);
                symbols[MATCH_LENGTHS][i] = symbolFor(finder.lengths[i], MATCH_BASES);
            }
        }

        private static int symbolFor(int v, int[] bases) {
            int s = bases.length - 1;
            for (; s > 0 && bases[s] > v; s--) {
                continue;
            }
            return s;
        }

        // Fills symbolCounts; answers how many different symbols there are.
        private int countSymbols(int i) {
            Arrays.fill(symbolCounts, 0);
            int different = 0;
            for (int j = 0; j < finder.found; j++) {
                int s = symbols[i][j];
                different += symbolCounts[s] == 0 ? 1 : 0;
                symbolCounts[s]++;
            }
            return different;
        }

        private void packTable(int i) {
            int n = finder.found;
            int different = countSymbols(i);
            Share before = now.tables[i];
            Share fresh = before == ownTables[i] ? otherTables[i] : ownTables[i];
            int cost = GREATEST_INT;
            if (known[i].holds(symbolCounts)) {
                cost = known[i].costOf(symbols[i], n);
                modes[i] = 0;
            }
            if (different == 1 && 8 < cost) {
                cost = 8;
                modes[i] = 1;
            }
            int order = bestOrder(fresh, i, different, cost);
            if (order > 0) {
                cost = leastCost;
                modes[i] = 2;
            }
            if (before != null && before.holds(symbolCounts) && before.costOf(symbols[i], n) < cost) {
                modes[i] = 3;
            }
            next.tables[i] = modes[i] == 0 ? known[i] : modes[i] == 3 ? before : fresh;
            if (modes[i] == 1) {
                fresh.becomeAlone(symbols[i][0]);
                packed.add(symbols[i][0]);
            } else if (modes[i] == 2) {
                packShare(packed, fresh, order);
                fresh.lay();
            }
        }

        private void packShare(Row out, Share share, int order) {
            share.takeCounts(symbolCounts, finder.found, order);
            out.reserve(SHARE_ROOM);
            share.tell(out);
        }

        // The order that mode 2 takes, 0 when its cost is not below a limit; leaves the cost in leastCost.
        private int bestOrder(Share share, int i, int different, int limit) {
            int best = 0;
            leastCost = limit;
            for (int order = 5; order <= GREATEST_ORDERS[i]; order++) {
                if (1 << order >= different) {
                    told.clear();
                    packShare(told, share, order);
                    // The last state alone costs as many bits as the order is: many end here.
                    boolean may = 8 * told.count + order < leastCost;
                    if (may) {
                        share.lay();
                    }
                    int cost = may ? 8 * told.count + share.costOf(symbols[i], finder.found) : leastCost;
                    if (cost < leastCost) {
                        leastCost = cost;
                        best = order;
                    }
                }
            }
            return best;
        }

        // MODES and the stream of the sequences, if there are some.
        private void packStream(int modesAt) {
            int last = finder.found - 1;
            if (last < 0 || modesAt >= packed.count) {
                return;
            }
            packed.bytes[modesAt] = (byte) (modes[0] << 6 | modes[1] << 4 | modes[2] << 2);
            // States take 26 bits at most, and additional bits are no more than 46.
            packed.reserve(9 * finder.found + 16);
            int literal = next.tables[LITERAL_LENGTHS].lowestPlace(symbols[LITERAL_LENGTHS][last]);
            int distance = next.tables[DISTANCES].lowestPlace(symbols[DISTANCES][last]);
            int match = next.tables[MATCH_LENGTHS].lowestPlace(symbols[MATCH_LENGTHS][last]);
            packAdditional(last);
            for (int i = last - 1; i >= 0; i--) {
                distance = packState(DISTANCES, distance, i);
                match = packState(MATCH_LENGTHS, match, i);
                literal = packState(LITERAL_LENGTHS, literal, i);
                packAdditional(i);
            }
            packed.addBits(match, next.tables[MATCH_LENGTHS].order);
            packed.addBits(distance, next.tables[DISTANCES].order);
            packed.addBits(literal, next.tables[LITERAL_LENGTHS].order);
            packed.addBits(1, 1);
            packed.endBits();
        }

        private int packState(int table, int state, int i) {
            Share share = next.tables[table];
            int symbol = symbols[table][i];
            int bits = share.bitsAhead(state, symbol);
            packed.addBits(state, bits);
            return share.placeAhead(state, symbol, bits);
        }

        private void packAdditional(int i) {
            int literal = symbols[LITERAL_LENGTHS][i];
            int match = symbols[MATCH_LENGTHS][i];
            packed.addBits(finder.literals[i] - LITERAL_BASES[literal], LITERAL_BITS[literal]);
            packed.addBits(finder.lengths[i] - MATCH_BASES[match], MATCH_BITS[match]);
            packed.addBits(numbers[i], symbols[DISTANCES][i]);
        }

        // A formed dictionary MADE of a row; false when it cannot be.
        boolean packDictionary(Row out, Row from) {
            int n = from.count;
            if (n < 8) {
                return false;
            }
            finder.data.become(from);
            finder.begin(settings[WAY], settings[LEAST], MOST_BYTES);
            findSequences(0, n);
            if (finder.found == 0 || areSame(literals.bytes, 0, literals.count)) {
                return false;
            }
            told.clear();
            ownCodes[0].becomeByCounts(byteCounts);
            if (!ownCodes[0].describe(told)) {
                return false;
            }
            out.addNumber(FORMED_MARK, 4);
            out.addNumber(settings[ID], 4);
            out.addPart(told.bytes, 0, told.count);
            next.clear();
            tellSymbols();
            packOwnShare(out, DISTANCES);
            packOwnShare(out, MATCH_LENGTHS);
            packOwnShare(out, LITERAL_LENGTHS);
            out.addNumber(1, 4);
            out.addNumber(4, 4);
            out.addNumber(8, 4);
            out.addPart(from.bytes, 0, n);
            return true;
        }

        private void packOwnShare(Row out, int i) {
            int different = countSymbols(i);
            packShare(out, ownTables[i], bestOrder(ownTables[i], i, different, GREATEST_INT));
        }
    }
}
