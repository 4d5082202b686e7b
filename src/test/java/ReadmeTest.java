import java.io.IOException;
import java.nio.charset.StandardCharsets;
import java.nio.file.Files;
import java.nio.file.Path;
import java.util.ArrayList;
import java.util.List;

/** Tries what README.md shows, as it stands there; run in the project's directory. */
public final class ReadmeTest {
    public static void main(String[] args) throws IOException, InterruptedException {
        String readme = Files.readString(Path.of("README.md"));
        List<String> programs = blocks(readme, "java");
        List<String> commands = blocks(readme, "sh");
        List<String> printed = blocks(readme, "text");
        Check.compare("one program, what it prints, and three commands", "1 1 3",
            programs.size() + " " + printed.size() + " " + commands.size());
        Check.compare("the program is the example", Files.readString(Path.of("src", "example", "java", "House.java")),
            programs.get(0));
        Check.compare("what the example prints", printed.get(0), run(commands.get(0)));
        // The next is the one that runs this test.
        Check.compare("how all tests are run", ".ci/run\n", commands.get(1));
        Check.compare("it can be run", "true", String.valueOf(Files.isExecutable(Path.of(".ci", "run"))));
        Check.compare("one test alone ends well", "0 wrong", lastWords(run(commands.get(2))));
        everyTestIsNamed(readme);
        everyCallAndExceptionIsNamed(readme);
        Check.end();
    }

    private static List<String> blocks(String readme, String language) {
        List<String> found = new ArrayList<>();
        String start = "```" + language + "\n";
        int from = readme.indexOf(start);
        while (from >= 0) {
            int end = readme.indexOf("```\n", from + start.length());
            found.add(readme.substring(from + start.length(), end));
            from = readme.indexOf(start, end);
        }
        return found;
    }

    private static String run(String commands) throws IOException, InterruptedException {
        Process process = new ProcessBuilder("sh", "-e", "-c", commands).redirectErrorStream(true).start();
        String printed = new String(process.getInputStream().readAllBytes(), StandardCharsets.UTF_8);
        Check.compare("the exit code of " + commands.trim(), "0", String.valueOf(process.waitFor()));
        return printed;
    }

    private static String lastWords(String printed) {
        return printed.substring(printed.lastIndexOf(", ") + 2).trim();
    }

    private static void everyTestIsNamed(String readme) throws IOException {
        try (var files = Files.list(Path.of("src", "test", "java"))) {
            for (Path file : (Iterable<Path>) files.sorted()::iterator) {
                String name = file.getFileName().toString().replace(".java", "");
                if (name.endsWith("Test")) {
                    Check.compare(name + " is named", "true", String.valueOf(readme.contains("`" + name + "`")));
                }
            }
        }
    }

    private static void everyCallAndExceptionIsNamed(String readme) {
        for (var method : Takeoff.class.getDeclaredMethods()) {
            if (java.lang.reflect.Modifier.isPublic(method.getModifiers())) {
                Check.compare(method.getName() + " is named", "true",
                    String.valueOf(readme.contains("`" + method.getName() + "`")));
                for (Class<?> exception : method.getExceptionTypes()) {
                    Check.compare(exception.getSimpleName() + " is explained", "true",
                        String.valueOf(readme.contains("\n| `" + exception.getSimpleName() + "` | ")));
                }
            }
        }
    }
}
