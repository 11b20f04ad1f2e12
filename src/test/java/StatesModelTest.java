import java.util.Random;

/** Promises 18 and 23 in FORMATS 4 and 5: what is written, against the document's own steps, row by row. */
public final class StatesModelTest {
    public static void main(String[] args) {
        Random random = new Random(31);
        for (int turn = 0; turn < 700; turn++) {
            StatesModel m = new StatesModel();
            m.way = random.nextInt(4);
            m.least = 3 + random.nextInt(6);
            m.cut = random.nextInt(3) == 0 ? 1 + random.nextInt(400) : 65536;
            m.flags = random.nextInt(16);
            m.e = random.nextInt(3) == 0 ? 0 : random.nextInt(12);
            m.newId = random.nextInt(3) == 0 ? random.nextInt() : random.nextInt(1 << 17);
            byte[] row = row(random, random.nextInt(turn % 25 == 0 ? 2500 : 400));
            PackHouse x = new PackHouse();
            m.set(x);
            if (turn % 3 == 0) {
                learn(random, m, x);
            }
            Checks.load(x, 0, row);
            byte[] want = m.write(row);
            Checks.due("turn " + turn, x.write(1, 0, 4), want.length);
            Checks.dueRow("turn " + turn, x, 1, want);
            for (int i = 1; i <= 12; i++) {
                Checks.due("turn " + turn + ": about " + i, x.about(i), m.about[i]);
            }
            Checks.due("strayed", x.strayed(0) + x.strayed(1), 0);
        }
        Checks.end("StatesModelTest");
    }

    // A dictionary of content alone, or a formed one that both make.
    private static void learn(Random random, StatesModel m, PackHouse x) {
        byte[] said = row(random, random.nextInt(300));
        Checks.load(x, 2, said);
        byte[] made = m.made(said);
        Checks.due("made", x.write(3, 2, 5), made == null ? -1 : made.length);
        if (made != null) {
            Checks.dueRow("made", x, 3, made);
            m.learnMade(said);
            Checks.due("learn", x.learn(3), said.length);
        } else {
            m.content = said;
            Checks.due("learn", x.learn(2), said.length);
        }
    }

    private static byte[] row(Random random, int n) {
        byte[] b = new byte[n];
        int letters = 1 + random.nextInt(random.nextInt(3) == 0 ? 256 : 12);
        int form = random.nextInt(3);
        for (int i = 0; i < n; i++) {
            int back = 1 + random.nextInt(40);
            boolean copy = form == 0 ? i >= 17 && random.nextInt(8) > 0 : form == 1 && i >= back && random.nextInt(3) > 0;
            b[i] = copy ? b[i - (form == 0 ? 17 : back)]
                : (byte) (random.nextBoolean() ? random.nextInt(letters) : random.nextInt(1 + letters / 4));
        }
        return b;
    }
}
