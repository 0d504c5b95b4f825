import java.io.IOException;
import java.nio.file.DirectoryStream;
import java.nio.file.Files;
import java.nio.file.Path;
import java.util.ArrayList;
import java.util.List;

/** What README.md says: its program is compiled and run by its own commands, and its tests are all there. */
public final class ReadmeTest {
    private static final Path PROJECT = Path.of("").toAbsolutePath();
    private static final Path TESTS = PROJECT.resolve("src/test/java");

    public static void main(String[] args) throws IOException, InterruptedException {
        String readme = Files.readString(PROJECT.resolve("README.md"));
        theProgram(readme);
        theTests(readme);
        theCalls(readme);
        Check.finish("ReadmeTest");
    }

    private static void theProgram(String readme) throws IOException, InterruptedException {
        Path place = Files.createTempDirectory("readme");
        Path main = place.resolve("src/main/java");
        Files.createDirectories(main);
        Files.copy(PROJECT.resolve("src/main/java/EchoVale.java"), main.resolve("EchoVale.java"));
        Files.writeString(place.resolve("Tour.java"), block(readme, "java"));
        List<String> commands = new ArrayList<>();
        for (String line : readme.split("\n")) {
            if (line.startsWith("    javac ") || line.startsWith("    java ")) {
                commands.add(line.strip());
            }
        }
        Check.due("commands of README.md", commands.size(), 2);
        String printed = "";
        for (String command : commands) {
            printed = run(place, command);
        }
        Check.due("what README.md's program prints", printed, block(readme, "text"));
    }

    private static String block(String readme, String kind) {
        String first = "```" + kind + "\n";
        int start = readme.indexOf(first) + first.length();
        return readme.substring(start, readme.indexOf("```\n", start));
    }

    private static String run(Path place, String command) throws IOException, InterruptedException {
        Path output = place.resolve("output");
        Process process = new ProcessBuilder(command.split(" ")).directory(place.toFile()).redirectErrorStream(true)
            .redirectOutput(output.toFile()).start();
        Check.due(command, process.waitFor(), 0);
        return Files.readString(output);
    }

    // Each test, and what tests share, is told; and what is told is there.
    private static void theTests(String readme) throws IOException {
        Check.due(".ci/run may be run", Files.isExecutable(PROJECT.resolve(".ci/run")), true);
        Check.due("README.md tells of .ci/run", readme.contains("\n    .ci/run\n"), true);
        try (DirectoryStream<Path> files = Files.newDirectoryStream(TESTS, "*.java")) {
            for (Path file : files) {
                String name = file.getFileName().toString();
                Check.due("README.md tells of " + name, readme.contains(name), true);
            }
        }
        for (String word : readme.split("[^A-Za-z./]+")) {
            if (word.startsWith("src/")) {
                Check.due(word + " is there", Files.exists(PROJECT.resolve(word)), true);
            }
        }
    }

    // Each call of the document's face is told.
    private static void theCalls(String readme) {
        int calls = 0;
        for (java.lang.reflect.Method method : EchoVale.class.getDeclaredMethods()) {
            if (java.lang.reflect.Modifier.isPublic(method.getModifiers())) {
                calls++;
                Check.due("README.md tells of " + method.getName(), readme.contains("`" + method.getName() + "`"), true);
            }
        }
        Check.due("calls of the face", calls, 41);
    }
}
