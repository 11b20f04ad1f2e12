import java.util.Random;

/** Promises 16 and 18 in FORMAT 5: dictionaries on each boundary that the document names, and beside it. */
public final class DictionaryEdgesTest {
    private static final byte[] MARK = Checks.bytes(55, 164, 48, 236);
    private static final byte[] TWO = Checks.bytes(128, 0x10);
    private static final byte[] SAID = Checks.text("content!");
    private static final int[] IN_ORDER = {1, 2, 0};

    public static void main(String[] args) {
        contentAlone();
        cutAnywhere();
        descriptions();
        shares();
        lackingShares();
        distances();
        staysAsItWas();
        latestAfterwards();
        eightBytes();
        literals();
        manySymbols();
        windowIsEnough();
        madeOfAnything();
        Checks.end("DictionaryEdgesTest");
    }

    private static byte[] share() {
        return new States.Share(5, new int[] {31, 1}).told();
    }

    private static byte[] latest(long a, long b, long c) {
        return Checks.join(Checks.number(a, 4), Checks.number(b, 4), Checks.number(c, 4));
    }

    private static byte[] formed(byte[] description, byte[]... more) {
        return Checks.join(MARK, Checks.number(77, 4), description, Checks.join(more));
    }

    private static void due(String what, byte[] row, int want) {
        PackHouse x = new PackHouse();
        Checks.load(x, 0, row);
        Checks.due(what, x.learn(0), want);
        boolean named = want >= 0 && row.length >= 4 && x.kind(0) == 5;
        Checks.due(what + ": content", x.about(19), Math.max(0, want));
        Checks.due(what + ": ID", x.about(20), named ? 77 : 0);
    }

    private static void contentAlone() {
        for (int n = 0; n <= 12; n++) {
            due(n + " bytes", Checks.same(9, n), n);
        }
        for (int n = 0; n < 4; n++) {
            due(n + " bytes of the mark", Checks.part(MARK, 0, n), n);
            due("another mark", Checks.with(formed(TWO), n, MARK[n] + 1), 10);
        }
        due("the mark alone", MARK, -1);
        PackHouse x = new PackHouse();
        for (int n = 3; n >= 0; n--) {
            Checks.load(x, 0, MARK);
            x.cut(0, n);
            Checks.due("the mark, cut to " + n, x.learn(0), n);
        }
        due("65536 bytes", Checks.same(3, 65536), 65536);
    }

    // Where its bytes end: within the ID, the DESCRIPTION, the shares, the distances; then distances above the content.
    private static void cutAnywhere() {
        byte[] share = share();
        byte[] all = formed(TWO, share, share, share, latest(1, 4, 8), SAID);
        int shares = 8 + TWO.length;
        int distances = shares + 3 * share.length;
        for (int n = 4; n <= all.length; n++) {
            int want = n < 8 ? -1 : n < shares ? -2 : n < distances ? -3 : n < distances + 12 ? -1
                : n < all.length ? -4 : SAID.length;
            due("cut at " + n, Checks.part(all, 0, n), want);
        }
    }

    private static void dueDescribed(String what, boolean right, byte[] description) {
        byte[] share = share();
        due(what, formed(description, share, share, share, latest(1, 4, 8), SAID), right ? 8 : -2);
    }

    private static void descriptions() {
        for (int k = 1; k <= 128; k++) {
            int[] weights = new int[k];
            weights[k - 1] = 1;
            dueDescribed("k " + k, true, States.direct(weights, k));
        }
        dueDescribed("no weight", false, States.direct(new int[] {0}, 1));
        dueDescribed("none is 1", false, States.direct(new int[] {2}, 1));
        dueDescribed("3 lack", false, States.direct(new int[] {3, 1}, 2));
        dueDescribed("T 11", true, States.direct(new int[] {11, 10, 9, 8, 7, 6, 5, 4, 3, 2, 1}, 11));
        dueDescribed("T 12", false, States.direct(new int[] {11, 10, 9, 8, 7, 6, 5, 4, 3, 2, 1, 1}, 12));
        dueDescribed("a weight 12", false, States.direct(new int[] {12}, 1));
        int[] lengths = new int[256];
        for (int i = 0; i < 40; i++) {
            lengths[i] = i < 8 ? 4 : 6;
        }
        int[] weights = States.weights(lengths);
        for (int order = 5; order <= 7; order++) {
            byte[] told = States.byStates(weights, 39, order);
            dueDescribed("by states of order " + order, order < 7, Checks.join(Checks.bytes(told.length), told));
            dueDescribed("its last byte is 0", false, Checks.join(Checks.bytes(told.length + 1), told, Checks.bytes(0)));
        }
        dueDescribed("by states of no bytes", false, Checks.bytes(0));
    }

    // Distances, match lengths, literal lengths, each with its greatest order and LAST, and one more.
    private static void shares() {
        for (int i = 0; i < 3; i++) {
            int t = IN_ORDER[i];
            for (int order = 5; order <= States.GREATEST[t] + 1; order++) {
                for (int last = States.LAST[t] - 1; last <= States.LAST[t] + 1; last++) {
                    int[] points = new int[last + 1];
                    points[0] = (1 << order) - 5;
                    points[last] = 5;
                    byte[][] all = {share(), share(), share()};
                    all[i] = new States.Share(order, points).told();
                    boolean right = order <= States.GREATEST[t] && last <= States.LAST[t];
                    due("share " + i + " of order " + order + ", last " + last,
                        formed(TWO, all[0], all[1], all[2], latest(1, 4, 8), SAID), right ? 8 : -3);
                }
            }
        }
    }

    // All symbols up to LAST have a point; the last one what lacks, or one less. Symbols above LAST said to have none.
    private static void lackingShares() {
        for (int i = 0; i < 3; i++) {
            int t = IN_ORDER[i];
            int last = States.LAST[t];
            for (int less = 0; less < 2; less++) {
                int order = t == 1 ? 6 : 7;
                int left = 1 << order;
                States.Bits out = new States.Bits().add(order - 5, 4);
                for (int s = 0; s <= last; s++) {
                    int p = s < last ? 1 : left - less;
                    States.tellPoints(out, left, p);
                    left -= p;
                }
                dueShare("one or none lacks", i, less == 0, out.bytes());
            }
            for (int said = last - 2; said <= last + 3; said++) {
                States.Bits out = new States.Bits().add(0, 4);
                States.tellPoints(out, 32, 16);
                States.tellPoints(out, 16, 0);
                int zeros = said - 1;
                for (; zeros >= 3; zeros -= 3) {
                    out.add(3, 2);
                }
                out.add(zeros, 2);
                States.tellPoints(out, 16, 16);
                dueShare("none up to " + said, i, said < last, out.bytes());
            }
        }
    }

    private static void dueShare(String what, int i, boolean right, byte[] told) {
        byte[][] all = {share(), share(), share()};
        all[i] = told;
        due(what + ", share " + i, formed(TWO, all[0], all[1], all[2], latest(1, 4, 8), SAID), right ? 8 : -3);
    }

    // Each of the three as far as the content, one further, 0, and without a sign.
    private static void distances() {
        byte[] share = share();
        for (int n = 0; n <= 9; n++) {
            byte[] said = Checks.same(5, n);
            for (int i = 0; i < 3; i++) {
                for (long d : new long[] {0, 1, n - 1, n, n + 1, 65536 + n, 1L << 31, (1L << 31) + 1, (1L << 32) - 1}) {
                    if (d >= 0) {
                        long[] all = {1, 1, 1};
                        all[i] = d;
                        boolean right = n > 0 && d > 0 && d <= n;
                        due("distance " + d + " in " + n, formed(TWO, share, share, share, latest(all[0], all[1], all[2]), said),
                            right ? n : -4);
                    }
                }
            }
        }
    }

    // What was learned stays when the next one is not; what is learned next takes its place, with nothing left of it.
    private static void staysAsItWas() {
        PackHouse x = new PackHouse();
        byte[] share = share();
        byte[] right = formed(TWO, share, share, share, latest(2, 4, 8), SAID);
        Checks.load(x, 0, right);
        Checks.due("learn", x.learn(0), 8);
        Checks.load(x, 0, Checks.part(right, 0, right.length - 1));
        Checks.due("distances above the content", x.learn(0), -4);
        // One literal, LATEST's first is 2: the literal and the content's last byte.
        byte[] frame = Checks.bytes(40, 181, 47, 253, 0, 80, 8 * 8 + 5, 0, 0, 8, 65, 1, 84, 1, 0, 0, 1);
        Checks.dueRead("the first one's LATEST and content", x, 4, frame, 9, Checks.text("A!A!"));
        Checks.load(x, 0, Checks.text("other"));
        Checks.due("content alone", x.learn(0), 5);
        Checks.due("its ID", x.about(20), 0);
        Checks.dueRead("LATEST 1, 4, 8", x, 4, frame, 9, Checks.text("AAAA"));
        Checks.load(x, 0, right);
        x.learn(0);
        x.cut(0, 0);
        Checks.due("no bytes", x.learn(0), 0);
        Checks.due("no content", x.about(19), 0);
        Checks.dueRead("LATEST 1, 4, 8", x, 4, frame, 9, Checks.text("AAAA"));
        Checks.load(x, 0, right);
        x.learn(0);
        Checks.due("forget", x.forget(1) && x.forget(1), true);
        Checks.dueRead("LATEST 1, 4, 8", x, 4, frame, 9, Checks.text("AAAA"));
    }

    // LATEST of the DICTIONARY, each of the three; 1, 4, 8 when it is forgotten or has content alone.
    private static void latestAfterwards() {
        byte[] share = share();
        byte[] ten = Checks.text("0123456789");
        PackHouse x = new PackHouse();
        Checks.load(x, 0, formed(TWO, share, share, share, latest(2, 3, 5), SAID));
        for (int turn = 0; turn < 4; turn++) {
            int[] due = turn % 2 == 0 ? new int[] {2, 3, 5} : new int[] {1, 4, 8};
            if (turn % 2 == 0) {
                Checks.due("learn", x.learn(0), 8);
            } else if (turn == 1) {
                x.forget(1);
            } else {
                Checks.load(x, 3, SAID);
                Checks.due("learn", x.learn(3), 8);
            }
            for (int v = 1; v <= 3; v++) {
                int s = v == 1 ? 0 : 1;
                // Ten literals and a match of three by tables of one symbol each.
                byte[] block = Checks.join(Checks.bytes(80), ten, Checks.bytes(1, 84, 10, s, 0, v));
                byte[] frame = Checks.join(Checks.bytes(40, 181, 47, 253, 0, 80), States.blockHead(2, true, block.length), block);
                byte[] copy = new byte[3];
                for (int i = 0; i < 3; i++) {
                    copy[i] = ten[10 - due[v - 1] + i % due[v - 1]];
                }
                Checks.dueRead("v " + v + ", turn " + turn, x, 4, frame, 13, Checks.join(ten, copy));
            }
        }
    }

    // Matches of n lengths that have n symbols: order 5 has places for 32.
    private static void manySymbols() {
        for (int n : new int[] {1, 2, 31, 32, 33, 34, 40}) {
            StatesModel m = new StatesModel();
            m.least = 3;
            byte[] noise = WrittenStatesEdgesTest.noise(54, 200);
            byte[] row = noise;
            for (int i = 0; i < n; i++) {
                row = Checks.join(row, Checks.bytes(noise[States.matchBase(i)] + 1 + i), Checks.part(noise, 0, States.matchBase(i)));
            }
            dueMade(n + " match lengths", m, Checks.join(row, Checks.bytes(0)), true);
        }
    }

    private static void dueMade(String what, StatesModel m, byte[] row, boolean right) {
        PackHouse x = new PackHouse();
        m.set(x);
        Checks.load(x, 0, row);
        byte[] want = m.made(row);
        Checks.due(what + " is made", want != null, right);
        Checks.due(what, x.write(1, 0, 5), right ? want.length : -1);
        Checks.dueRow(what, x, 1, right ? want : new byte[0]);
        Checks.due(what + ": strayed", x.strayed(0) + x.strayed(1), 0);
        if (right) {
            // LATEST 8 may be above the content, of which there are 8 bytes at least.
            Checks.due(what + ": learn", x.learn(1), row.length);
        }
    }

    private static void eightBytes() {
        StatesModel m = new StatesModel();
        m.least = 3;
        byte[] row = Checks.text("abcabcabcabc");
        for (int n = 0; n <= 12; n++) {
            dueMade(n + " bytes", m, Checks.part(row, 0, n), n >= 8);
        }
        for (int least = 3; least <= 8; least++) {
            m.least = least;
            dueMade("four again, LEAST " + least, m, Checks.text("abcd0abcd"), least <= 4);
            dueMade("eight again, LEAST " + least, m, Checks.text("abcdefgh0abcdefgh"), true);
        }
    }

    private static void literals() {
        StatesModel m = new StatesModel();
        dueMade("one literal", m, Checks.same(97, 30), false);
        dueMade("two that are not the same", m, Checks.join(Checks.bytes(98), Checks.same(97, 30)), true);
        dueMade("two behind", m, Checks.join(Checks.same(97, 30), Checks.bytes(98)), true);
        for (int kinds : new int[] {64, 127, 128, 129, 130, 254, 255, 256}) {
            byte[] row = new byte[kinds];
            for (int i = 0; i < kinds; i++) {
                row[i] = (byte) i;
            }
            // Of 255 and 256 kinds all codes but that of the highest have 8 bits: weights that are all the same.
            dueMade(kinds + " kinds", m, Checks.join(row, Checks.part(row, 3, 9)), kinds < 255);
        }
    }

    // A WINDOW that is enough, whatever E and FLAGS are; what was learned or is HISTORY counts for nothing.
    private static void windowIsEnough() {
        StatesModel m = new StatesModel();
        m.e = 0;
        m.flags = 4;
        m.cut = 10;
        byte[] noise = WrittenStatesEdgesTest.noise(51, 1500);
        byte[] row = Checks.join(noise, Checks.part(noise, 0, 9));
        dueMade("1500 back", m, row, true);
        PackHouse x = new PackHouse();
        m.set(x);
        Checks.load(x, 2, row);
        x.learn(2);
        x.history(2);
        Checks.load(x, 0, Checks.part(row, 100, 130));
        Checks.due("no sequences of its own", x.write(1, 0, 5), -1);
        Checks.load(x, 0, Checks.same(1, 16383));
        x.give(0, 1, 0x0200000000000000L);
        Checks.due("16384 bytes, with HISTORY and a DICTIONARY", x.write(1, 0, 5) > 16384, true);
        x.give(0, 1, 0);
        Checks.due("16385 bytes", x.write(1, 0, 5), -1);
    }

    private static void madeOfAnything() {
        Random random = new Random(52);
        for (int turn = 0; turn < 150; turn++) {
            StatesModel m = new StatesModel();
            m.way = turn % 4;
            m.least = 3 + turn % 6;
            m.newId = random.nextInt();
            byte[] row = new byte[8 + random.nextInt(turn % 10 == 0 ? 1500 : 150)];
            int letters = 1 + random.nextInt(turn % 2 == 0 ? 6 : 256);
            for (int i = 0; i < row.length; i++) {
                int back = 1 + random.nextInt(30);
                row[i] = i > 30 && random.nextInt(9) > 0 ? row[i - 30] : i >= back && random.nextBoolean() ? row[i - back]
                    : (byte) random.nextInt(letters);
            }
            dueMade("turn " + turn, m, row, m.made(row) != null);
        }
    }
}
