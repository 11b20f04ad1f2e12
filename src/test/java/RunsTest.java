import java.lang.reflect.InvocationTargetException;
import java.lang.reflect.Method;
import java.lang.reflect.Modifier;
import java.nio.file.Files;
import java.nio.file.Path;
import java.util.HashMap;
import java.util.Map;

/**
 * Whole runs of calls, answered by slow models of the document that were written apart from the program: runs.txt by
 * one, made.txt by a later one, with rows that the program itself never writes and that have each fault, or none.
 */
public final class RunsTest {
    private static final Map<String, Method> FACE = new HashMap<>();

    public static void main(String[] args) throws Exception {
        for (Method m : PackHouse.class.getDeclaredMethods()) {
            if (Modifier.isPublic(m.getModifiers())) {
                FACE.put(m.getName(), m);
            }
        }
        runs("runs.txt");
        runs("made.txt");
        Checks.end("RunsTest");
    }

    private static void runs(String file) throws Exception {
        PackHouse x = new PackHouse();
        int line = 0;
        for (String row : Files.readAllLines(Path.of(System.getProperty("data"), file))) {
            line++;
            if (row.equals("new")) {
                x = new PackHouse();
                continue;
            }
            String[] sides = row.split(" = ");
            String[] words = sides[0].split(" ");
            long got = words[0].equals("load") ? load(x, words) : call(x, words);
            String shown = sides[0].length() < 80 ? sides[0] : words[0] + " " + words[1] + " ..";
            Checks.due(file + " " + line + ": " + shown, got, Long.parseLong(sides[1]));
        }
    }

    private static long load(PackHouse x, String[] words) {
        int r = Integer.parseInt(words[1]);
        Checks.load(x, r, Checks.hex(words.length > 2 ? words[2] : ""));
        return x.size(r);
    }

    private static long call(PackHouse x, String[] words) throws IllegalAccessException, InvocationTargetException {
        Method m = FACE.get(words[0]);
        Class<?>[] types = m.getParameterTypes();
        Object[] values = new Object[types.length];
        for (int i = 0; i < types.length; i++) {
            long v = Long.parseLong(words[i + 1]);
            values[i] = types[i] == int.class ? (Object) (int) v : types[i] == long.class ? (Object) v : (Object) (v == 1);
        }
        Object answer = m.invoke(x, values);
        return answer instanceof Boolean yes ? (yes ? 1 : 0) : ((Number) answer).longValue();
    }
}
