import java.lang.reflect.Constructor;
import java.lang.reflect.Field;
import java.lang.reflect.Method;
import java.lang.reflect.Modifier;
import java.nio.file.Files;
import java.nio.file.Path;
import java.util.Arrays;
import java.util.HashSet;
import java.util.Set;
import java.util.TreeSet;

/** The public face, and what LANGUAGE.md forbids that can be seen from outside or in the text. */
public final class FaceTest {
    private static final String[] FACE = {
        "boolean feed(int, int, int, int, int)", "boolean give(int, int, long)", "boolean again(int, int, int)",
        "boolean cut(int, int)", "boolean join(int, int, int, int)", "int size(int)", "int byteAt(int, int)",
        "int differ(int, int)", "boolean set(int, int)", "int get(int)", "int narrow(int, int, int, int)",
        "long wide(int, int, int, long)", "int poly(int, int, int, boolean)", "boolean history(int)", "int learn(int)",
        "boolean forget(int)", "int write(int, int, int)", "int read(int, int, int, int)", "int kind(int)",
        "int open(int, int, int)", "int bound(int, int)", "int about(int)", "int strayed(int)"};

    public static void main(String[] args) throws Exception {
        face();
        classes();
        text();
        Checks.end("FaceTest");
    }

    private static String signature(Method m) {
        StringBuilder s = new StringBuilder(m.getReturnType().getName()).append(' ').append(m.getName()).append('(');
        Class<?>[] types = m.getParameterTypes();
        for (int i = 0; i < types.length; i++) {
            s.append(i == 0 ? "" : ", ").append(types[i].getName());
        }
        return s.append(')').toString();
    }

    private static void face() {
        Set<String> due = new TreeSet<>(Arrays.asList(FACE));
        Set<String> there = new TreeSet<>();
        for (Method m : PackHouse.class.getDeclaredMethods()) {
            if (Modifier.isPublic(m.getModifiers())) {
                there.add(signature(m));
            } else {
                Checks.due("private " + m.getName(), Modifier.isPrivate(m.getModifiers()), true);
            }
        }
        Checks.due("the face: " + there, there.equals(due), true);
        Checks.due("public and final", PackHouse.class.getModifiers() & (Modifier.PUBLIC | Modifier.FINAL),
            Modifier.PUBLIC | Modifier.FINAL);
        Constructor<?>[] made = PackHouse.class.getDeclaredConstructors();
        Checks.due("constructors", made.length, 1);
        Checks.due("public without parameters", Modifier.isPublic(made[0].getModifiers())
            && made[0].getParameterCount() == 0, true);
        for (Field f : PackHouse.class.getDeclaredFields()) {
            Checks.due("private " + f.getName(), Modifier.isPrivate(f.getModifiers()), true);
        }
    }

    private static void classes() {
        Set<String> names = new HashSet<>();
        for (String s : FACE) {
            names.add(s.substring(s.indexOf(' ') + 1, s.indexOf('(')));
        }
        Class<?>[] inside = PackHouse.class.getDeclaredClasses();
        Checks.due("at most twelve classes", inside.length + 1 <= 12, true);
        for (Class<?> c : inside) {
            Checks.due("static " + c, Modifier.isStatic(c.getModifiers()) && !Modifier.isPublic(c.getModifiers())
                && !Modifier.isProtected(c.getModifiers()), true);
            for (Method m : c.getDeclaredMethods()) {
                Checks.due("a name of the face: " + m, names.contains(m.getName()), false);
            }
            members(c);
        }
        members(PackHouse.class);
    }

    private static void members(Class<?> c) {
        int fields = 0;
        for (Field f : c.getDeclaredFields()) {
            boolean isStatic = Modifier.isStatic(f.getModifiers());
            Checks.due("a static field that may change: " + f, isStatic && !Modifier.isFinal(f.getModifiers()), false);
            fields += isStatic ? 0 : 1;
        }
        Checks.due("fields of " + c + ": " + fields, fields <= 22, true);
        for (Method m : c.getDeclaredMethods()) {
            Checks.due("parameters of " + m, m.getParameterCount() <= 7, true);
        }
    }

    private static void text() throws Exception {
        String text = Files.readString(Path.of(System.getProperty("program")));
        String code = text.replaceAll("(?s)/\\*.*?\\*/", "").replaceAll("//[^\n]*", "");
        for (String word : new String[] {"throw", "throws", "try", "catch", "finally", "synchronized", "assert", "String",
            "Object", "equals", "hashCode", "toString", "package", "protected", "instanceof", "native", "volatile",
            "Thread", "Random", "interface", "double", "float"}) {
            Checks.due("the word " + word, code.matches("(?s).*\\b" + word + "\\b.*"), false);
        }
        Checks.due("lambdas and method references", code.contains("->") || code.contains("::"), false);
        Checks.due("imports", code.split("\\bimport\\b").length - 1, 1);
        Checks.due("no System but arraycopy", code.matches("(?s).*System\\.(?!arraycopy).*"), false);
        Checks.due("no Arrays but fill and copyOf", code.matches("(?s).*Arrays\\.(?!fill|copyOf).*"), false);
        int lines = 0;
        for (String line : code.split("\n")) {
            lines = line.matches(" {4}( {4})?\\}") ? 0 : line.matches(" {4}( {4})?[a-z].*\\{") ? 1 : lines + 1;
            boolean member = line.startsWith("        ") && !line.startsWith("    private static final class");
            Checks.due("a line of over 120 characters: " + line, line.length() > 120, false);
            Checks.due("a method of over 60 lines at " + line, member && lines > 60, false);
        }
    }
}
