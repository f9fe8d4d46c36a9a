import java.io.File;
import java.io.IOException;
import java.lang.reflect.Method;
import java.lang.reflect.Modifier;
import java.nio.charset.StandardCharsets;
import java.nio.file.Files;
import java.nio.file.Path;
import java.util.regex.Matcher;
import java.util.regex.Pattern;

import javax.tools.ToolProvider;

/** README.md: its example runs and prints what it says, and each method has its place. */
public final class ReadmeTest {
    private static String block(String readme, String behind, String language) {
        Matcher found = Pattern.compile("```" + language + "\\n(.*?)```", Pattern.DOTALL).matcher(readme);
        int from = Math.max(0, readme.indexOf(behind));
        return found.find(from) ? found.group(1) : "";
    }

    private static String run(String example) throws IOException, InterruptedException {
        Path room = Files.createTempDirectory("readme");
        Path source = room.resolve("Example.java");
        Path out = room.resolve("out");
        Files.writeString(source, example);
        int made = ToolProvider.getSystemJavaCompiler().run(null, null, null, "-Xlint:all", "-Werror",
            "-d", room.toString(), "src/main/java/GradualCheck.java", source.toString());
        Probe.due("the example compiles", made, 0);
        String java = System.getProperty("java.home") + File.separator + "bin" + File.separator + "java";
        int ended = new ProcessBuilder(java, "-cp", room.toString(), "Example")
            .redirectErrorStream(true).redirectOutput(out.toFile()).start().waitFor();
        Probe.due("the example ends", ended, 0);
        String printed = Files.readString(out, StandardCharsets.UTF_8);
        clear(room.toFile());
        return printed;
    }

    private static void clear(File room) {
        File[] inside = room.listFiles();
        for (File file : inside == null ? new File[0] : inside) {
            clear(file);
        }
        Probe.due("gone: " + room.getName(), room.delete());
    }

    public static void main(String[] args) throws IOException, InterruptedException {
        String readme = Files.readString(Path.of("README.md"));
        String example = block(readme, "### An example", "java");
        Probe.due("printed", run(example), block(readme, "It prints:", "text"));
        for (Method method : GradualCheck.class.getDeclaredMethods()) {
            String call = method.getName() + "(";
            if (Modifier.isPublic(method.getModifiers())) {
                Probe.due("the example calls " + call, example.contains("X." + call));
                Pattern heading = Pattern.compile("(?m)^### .*`" + Pattern.quote(call));
                Probe.due("a place for " + call, heading.matcher(readme).find());
            }
        }
        Probe.due("how to run the tests", readme.contains("\n    .ci/run\n"));
        Probe.end();
    }
}
