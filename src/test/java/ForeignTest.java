import java.nio.file.Files;
import java.nio.file.Path;

/** Promise 19: rows that other programs have packed in the same formats. */
public final class ForeignTest {
    public static void main(String[] args) throws Exception {
        int line = 0;
        for (String row : Files.readAllLines(Path.of(System.getProperty("data"), "foreign.txt"))) {
            line++;
            if (row.startsWith("#")) {
                continue;
            }
            String[] words = row.split(" ");
            PackHouse x = new PackHouse();
            Checks.load(x, 3, Checks.hex(words[3]));
            Checks.due("foreign.txt " + line + ": learn", x.learn(3) >= 0, true);
            byte[] want = Checks.hex(words[2]);
            Checks.load(x, 0, want);
            Checks.load(x, 1, Checks.hex(words[1]));
            int format = Integer.parseInt(words[0]);
            Checks.due("foreign.txt " + line + ": read", x.read(2, 1, format, want.length), want.length);
            Checks.due("foreign.txt " + line + ": differ", x.differ(0, 2), -1);
            if (want.length > 0) {
                Checks.due("foreign.txt " + line + ": too few", x.read(2, 1, format, want.length - 1) < 0, true);
            }
        }
        Checks.end("ForeignTest");
    }
}
