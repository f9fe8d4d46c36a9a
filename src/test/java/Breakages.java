import java.io.File;
import java.io.IOException;
import java.nio.file.Files;
import java.nio.file.Path;
import java.util.ArrayList;
import java.util.List;
import java.util.Set;
import java.util.concurrent.ExecutorService;
import java.util.concurrent.Executors;
import java.util.concurrent.Future;
import java.util.concurrent.TimeUnit;
import java.util.stream.Stream;

import javax.tools.ToolProvider;

/**
 * Breaks the class, a sentence of the document at a time (src/test/breakages.txt), and tells which of the tests with
 * answers worked out by hand fails then; fails if none does. .ci/run leaves it out: the list goes by the class's own
 * lines, and a class that is mended in other lines is not wrong for that.
 */
public final class Breakages {
    private static final Path CLASS = Path.of("src/main/java/GradualCheck.java");
    private static final Path TESTS = Path.of("src/test/java");
    private static final Path LIST = Path.of("src/test/breakages.txt");
    private static final Path ROOM = Path.of("build/broken");
    private static final Set<String> NOT_BY_HAND =
        Set.of("ModelTest", "BlameTest", "WildCallsTest", "RoomTest", "FaceTest", "RulesTest", "ReadmeTest");

    /** What is broken; which of the like places; the lines that go and those that come. */
    private record Breakage(String sentence, int place, String old, String broken) {
        static Breakage of(String block) {
            List<String> old = new ArrayList<>();
            List<String> broken = new ArrayList<>();
            String[] lines = block.split("\n");
            for (String line : lines) {
                String rest = line.length() < 2 ? "" : line.substring(2);
                if (line.startsWith("-")) {
                    old.add(rest);
                } else if (line.startsWith("+")) {
                    broken.add(rest);
                }
            }
            String[] head = lines[0].substring(2).split(" @");
            int place = head.length > 1 ? Integer.parseInt(head[1]) : 0;
            return new Breakage(head[0], place, String.join("\n", old), String.join("\n", broken));
        }

        /** The class with it; empty if it does not have the lines, or has them in several places and none is told. */
        String in(String source) {
            int at = source.indexOf(old);
            boolean only = at >= 0 && source.indexOf(old, at + 1) < 0;
            for (int k = 1; k < place && at >= 0; k++) {
                at = source.indexOf(old, at + 1);
            }
            boolean found = at >= 0 && !old.isEmpty() && (only || place > 0);
            return found ? source.substring(0, at) + broken + source.substring(at + old.length()) : "";
        }
    }

    private static List<String> testsByHand() throws IOException {
        try (Stream<Path> files = Files.list(TESTS)) {
            return files.map(file -> file.getFileName().toString().replace(".java", ""))
                .filter(name -> name.endsWith("Test") && !NOT_BY_HAND.contains(name)).sorted().toList();
        }
    }

    /** The test that fails, or what else came of it; empty if all pass. */
    private static String seenBy(Breakage breakage, String source, Path room) throws IOException, InterruptedException {
        String broken = breakage.in(source);
        if (broken.isEmpty()) {
            return "";
        }
        Path file = Files.createDirectories(room).resolve("GradualCheck.java");
        Path told = room.resolve("told");
        Files.writeString(file, broken);
        int made = ToolProvider.getSystemJavaCompiler().run(null, null, null, "-nowarn", "-d", room.toString(),
            file.toString());
        if (made != 0) {
            return "";
        }
        String path = room + File.pathSeparator + System.getProperty("java.class.path");
        String java = System.getProperty("java.home") + File.separator + "bin" + File.separator + "java";
        Process tests = new ProcessBuilder(java, "-XX:TieredStopAtLevel=1", "-cp", path, "Breakages", "tests")
            .redirectErrorStream(true).redirectOutput(told.toFile()).start();
        if (!tests.waitFor(120, TimeUnit.SECONDS)) {
            tests.destroyForcibly();
            return "it does not end";
        }
        List<String> begun = Files.readAllLines(told).stream().filter(line -> line.startsWith("== ")).toList();
        return tests.exitValue() == 0 || begun.isEmpty() ? "" : begun.get(begun.size() - 1).substring(3);
    }

    private static void runTests() throws Exception {
        for (String name : testsByHand()) {
            System.out.println("== " + name);
            Class.forName(name).getMethod("main", String[].class).invoke(null, (Object) new String[0]);
        }
    }

    public static void main(String[] args) throws Exception {
        if (args.length > 0) {
            runTests();
            return;
        }
        String source = Files.readString(CLASS);
        String[] blocks = Files.readString(LIST).split("\n\n");
        ExecutorService workers = Executors.newFixedThreadPool(Runtime.getRuntime().availableProcessors());
        List<Future<String>> answers = new ArrayList<>();
        for (int k = 0; k < blocks.length; k++) {
            Breakage breakage = Breakage.of(blocks[k]);
            Path room = ROOM.resolve(String.valueOf(k));
            answers.add(workers.submit(() -> seenBy(breakage, source, room)));
        }
        int unseen = 0;
        for (int k = 0; k < blocks.length; k++) {
            String seen = answers.get(k).get();
            unseen += seen.isEmpty() ? 1 : 0;
            System.out.println(Breakage.of(blocks[k]).sentence() + ": " + (seen.isEmpty() ? "NOT SEEN" : seen));
        }
        workers.shutdown();
        System.out.println(unseen + " of " + blocks.length + " are not seen by a test");
        System.exit(unseen == 0 ? 0 : 1);
    }
}
