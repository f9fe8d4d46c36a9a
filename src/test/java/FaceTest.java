import java.lang.reflect.Constructor;
import java.lang.reflect.Field;
import java.lang.reflect.Method;
import java.lang.reflect.Modifier;
import java.nio.file.Files;
import java.nio.file.Path;
import java.util.ArrayList;
import java.util.List;
import java.util.Map;
import java.util.Set;
import java.util.TreeMap;
import java.util.TreeSet;

/** Rules 1, 2, 5, 6 and 11 of LANGUAGE.md, as far as they can be seen from outside. */
public final class FaceTest {
    private static final Map<String, Integer> FACE = new TreeMap<>(Map.ofEntries(
        Map.entry("feed", 5), Map.entry("program", 1), Map.entry("type", 1), Map.entry("count", 1),
        Map.entry("node", 2), Map.entry("cast", 2), Map.entry("text", 3), Map.entry("pair", 3), Map.entry("meet", 2),
        Map.entry("join", 2), Map.entry("coerce", 3), Map.entry("then", 2), Map.entry("coercion", 2),
        Map.entry("clear", 1), Map.entry("run", 2), Map.entry("trace", 3), Map.entry("tries", 2),
        Map.entry("loose", 2), Map.entry("sets", 1)));

    private static void members() {
        Set<String> seen = new TreeSet<>();
        for (Method m : GradualCheck.class.getDeclaredMethods()) {
            boolean isPublic = Modifier.isPublic(m.getModifiers());
            Probe.due("public or private: " + m, isPublic || Modifier.isPrivate(m.getModifiers()));
            if (isPublic) {
                seen.add(m.getName());
                Probe.due("in the face: " + m, FACE.getOrDefault(m.getName(), -1), m.getParameterCount());
                Probe.due("answers an int: " + m, m.getReturnType() == int.class);
            }
        }
        Probe.due("all methods", seen.equals(FACE.keySet()));
        for (Field f : GradualCheck.class.getDeclaredFields()) {
            boolean none = f.getName().equals("NONE") && Modifier.isPublic(f.getModifiers());
            Probe.due("private but for NONE: " + f, none || Modifier.isPrivate(f.getModifiers()));
        }
        Constructor<?>[] made = GradualCheck.class.getDeclaredConstructors();
        Probe.due("one constructor", made.length, 1);
        Probe.due("a public one", Modifier.isPublic(made[0].getModifiers()) && made[0].getParameterCount() == 0);
        int modifiers = GradualCheck.class.getModifiers();
        Probe.due("public and final", Modifier.isPublic(modifiers) && Modifier.isFinal(modifiers));
    }

    private static void classesInside() {
        List<Class<?>> all = new ArrayList<>(List.of(GradualCheck.class.getDeclaredClasses()));
        Probe.due("twelve classes at most", all.size() < 12);
        all.add(GradualCheck.class);
        for (Class<?> c : all) {
            Probe.due("static: " + c, c == GradualCheck.class || Modifier.isStatic(c.getModifiers()));
            Probe.due("none inside: " + c, c == GradualCheck.class || c.getDeclaredClasses().length == 0);
            int fields = 0;
            for (Field f : c.getDeclaredFields()) {
                boolean isStatic = Modifier.isStatic(f.getModifiers());
                fields += isStatic ? 0 : 1;
                Probe.due("a static field is final: " + f, !isStatic || Modifier.isFinal(f.getModifiers()));
            }
            Probe.due("some twenty fields: " + c, fields <= 20);
            for (Method m : c.getDeclaredMethods()) {
                Probe.due("seven parameters: " + m, m.getParameterCount() <= 7);
                boolean free = Modifier.isPublic(m.getModifiers()) || !FACE.containsKey(m.getName());
                Probe.due("no private method bears a public one's name: " + m, free);
            }
        }
    }

    /** What the rules forbid, as words of the file outside its comments and texts. */
    private static void words() throws java.io.IOException {
        String source = Files.readString(Path.of("src/main/java/GradualCheck.java"));
        String bare = source.replaceAll("(?s)/\\*.*?\\*/", " ").replaceAll("//.*", " ")
            .replaceAll("\"[^\"]*\"", "\"\"").replaceAll("'.'", "' '");
        String[] forbidden = {"\\bthrow\\b", "\\btry\\b", "\\bcatch\\b", "\\bsynchronized\\b", "\\bassert\\b", "->", "::",
            "Exact\\b", "\\bRandom\\b", "nanoTime", "currentTimeMillis", "\\bthrows\\b", "\\bprotected\\b", "\\bpackage\\b",
            "hashCode", "\\.toString", "\\bObject\\b", "\"\\s*\\+", "\\+\\s*\""};
        for (String word : forbidden) {
            java.util.regex.Matcher m = java.util.regex.Pattern.compile(word).matcher(bare);
            Probe.due("the file has no " + word, !m.find());
        }
        for (int i = 0; i < source.length(); i++) {
            if (source.charAt(i) > 126) {
                Probe.due("a sign above 126", source.charAt(i), 32);
            }
        }
        longMethods(source);
    }

    /** Methods of some sixty lines: the lines between a method's head and the brace that ends it. */
    private static void longMethods(String source) {
        String[] lines = source.split("\n");
        for (int i = 0; i < lines.length; i++) {
            if (!lines[i].matches(" {4}( {4})?(public|private) .*\\) \\{")) {
                continue;
            }
            String end = lines[i].replaceAll("\\S.*", "") + "}";
            int k = i;
            while (k < lines.length && !lines[k].equals(end)) {
                k++;
            }
            Probe.due("lines of " + lines[i].trim(), k - i <= 60);
        }
    }

    public static void main(String[] args) throws java.io.IOException {
        members();
        classesInside();
        words();
        Probe.end();
    }
}
