import java.lang.reflect.Method;
import java.lang.reflect.Modifier;
import java.nio.file.Files;
import java.nio.file.Path;
import java.util.HashMap;
import java.util.Map;
import java.util.TreeSet;
import java.util.regex.Matcher;
import java.util.regex.Pattern;

/**
 * README.md: its examples answer what stands behind them, and it names every call and every test.
 * EDGES.md: the tests that it names are there.
 */
public final class ReadmeTest {
    private static final Pattern EXAMPLE = Pattern.compile("x\\.(\\w+)\\(([^)]*)\\); +// (true|false|-?\\d+)\\b.*");
    private static final Map<String, Method> FACE = new HashMap<>();

    public static void main(String[] args) throws Exception {
        for (Method m : PackHouse.class.getDeclaredMethods()) {
            if (Modifier.isPublic(m.getModifiers())) {
                FACE.put(m.getName(), m);
            }
        }
        Path readme = Path.of(System.getProperty("readme"));
        String text = Files.readString(readme);
        examples(text);
        for (String call : new TreeSet<>(FACE.keySet())) {
            Checks.due("README.md tells of " + call, text.contains("`" + call + "("), true);
        }
        Path tests = readme.resolveSibling("src/test/java");
        names(text, tests);
        edges(Files.readString(tests.resolveSibling("EDGES.md")), tests);
        Checks.end("ReadmeTest");
    }

    private static void examples(String text) throws Exception {
        PackHouse x = null;
        int seen = 0;
        for (String line : text.split("\n")) {
            if (line.equals("PackHouse x = new PackHouse();")) {
                x = new PackHouse();
            }
            Matcher m = EXAMPLE.matcher(line);
            if (x != null && m.matches()) {
                String answer = call(x, m);
                Checks.due("README.md: " + line + " (it is " + answer + ")", answer.equals(m.group(3)), true);
                seen++;
            }
        }
        Checks.due("README.md has examples", seen >= 20, true);
    }

    private static String call(PackHouse x, Matcher m) throws Exception {
        Method method = FACE.get(m.group(1));
        Class<?>[] types = method.getParameterTypes();
        String[] words = m.group(2).split(", ");
        Object[] values = new Object[types.length];
        for (int i = 0; i < types.length; i++) {
            values[i] = types[i] == boolean.class ? (Object) words[i].equals("true")
                : types[i] == long.class ? (Object) Long.decode(words[i].replace("L", "")) : (Object) Integer.decode(words[i]);
        }
        return String.valueOf(method.invoke(x, values));
    }

    private static void edges(String text, Path tests) throws Exception {
        String test = "";
        Matcher m = Pattern.compile("`(\\w+Test)?(\\.(\\w+))?`").matcher(text);
        while (m.find()) {
            test = m.group(1) == null ? test : m.group(1);
            String code = Files.readString(tests.resolve(test + ".java"));
            boolean there = m.group(3) == null || code.contains("static void " + m.group(3) + "(");
            Checks.due("EDGES.md: " + test + " " + m.group(), there, true);
        }
    }

    private static void names(String text, Path tests) {
        String[] there = tests.toFile().list();
        Checks.due("tests beside README.md", there != null && there.length > 0, true);
        for (String file : there == null ? new String[0] : there) {
            String name = file.replace(".java", "");
            Checks.due("README.md tells of " + name, text.contains("`" + name + "`"), true);
        }
    }
}
