import java.io.IOException;
import java.lang.reflect.Method;
import java.lang.reflect.Modifier;
import java.nio.file.Files;
import java.nio.file.Path;
import java.util.ArrayList;
import java.util.Collections;
import java.util.Comparator;
import java.util.List;
import java.util.regex.Matcher;
import java.util.regex.Pattern;
import java.util.stream.Stream;

/** What README.md says of the use of the class and of the running of its tests holds as it is written there. */
public final class ReadmeTest {
    private static final String PROGRAM = "src/main/java/ShadowWalls.java";
    private static final String[] GIVEN = {PROGRAM, "README.md", ".ci/run"};

    private final Due due = new Due("ReadmeTest");
    private final String text = Files.readString(Path.of("README.md"));

    private ReadmeTest() throws IOException {
    }

    public static void main(String[] args) throws IOException {
        ReadmeTest test = new ReadmeTest();
        test.exampleRuns();
        test.testsAreRun();
        test.everyCallIsTold();
        test.due.end();
    }

    /** Run in a folder of its own that holds no more than a user has, since the command makes files. */
    private void exampleRuns() throws IOException {
        String example = only("java");
        Path folder = Files.createTempDirectory("readme");
        try {
            for (String file : GIVEN) {
                Files.createDirectories(folder.resolve(file).getParent());
                Files.copy(Path.of(file), folder.resolve(file));
            }
            Files.writeString(folder.resolve(nameOfExample()), example);
            String command = blocks("sh").get(0);
            due.is("README.md's example", answersTold(example), () -> outputOf(command, folder));
        } finally {
            remove(folder);
        }
    }

    private void testsAreRun() throws IOException {
        due.is("README.md's command for the tests", ".ci/run", () -> blocks("sh").get(1).trim());
        due.is(".ci/run can be run", true, () -> Files.isExecutable(Path.of(".ci/run")));
        try (Stream<Path> files = Files.list(Path.of("src/test/java"))) {
            for (Path file : files.filter(path -> path.toString().endsWith("Test.java")).toList()) {
                due.is("README.md names " + file, true, () -> text.contains("- `" + file + "`: "));
            }
        }
        Matcher named = Pattern.compile("`((?:src|\\.ci|\\.\\./shared)[\\w./]*)`").matcher(text);
        while (named.find()) {
            String file = named.group(1);
            due.is(file + " is there", true, () -> Files.exists(Path.of(file)));
        }
    }

    private void everyCallIsTold() {
        for (Method method : ShadowWalls.class.getDeclaredMethods()) {
            if (Modifier.isPublic(method.getModifiers())) {
                String row = "(?s).*\\| `" + method.getName() + "\\("
                    + String.join(", ", Collections.nCopies(method.getParameterCount(), "\\w+")) + "\\)` \\| .*";
                due.is("README.md tells of " + method, true, () -> text.matches(row));
            }
        }
    }

    private List<String> blocks(String language) {
        List<String> found = new ArrayList<>();
        Matcher matcher = Pattern.compile("(?s)```" + language + "\n(.*?)```").matcher(text);
        while (matcher.find()) {
            found.add(matcher.group(1));
        }
        return found;
    }

    private String only(String language) {
        List<String> found = blocks(language);
        due.is("README.md's blocks of " + language, 1, found::size);
        return found.isEmpty() ? "" : found.get(0);
    }

    /** Of the file that README.md says the example is saved as. */
    private String nameOfExample() {
        Matcher matcher = Pattern.compile("Save this as `(\\w+\\.java)`").matcher(text);
        return matcher.find() ? matcher.group(1) : "Nameless.java";
    }

    private static String answersTold(String example) {
        StringBuilder answers = new StringBuilder();
        for (String line : example.lines().toList()) {
            Matcher matcher = Pattern.compile("println\\(.*// ([^:]*):").matcher(line);
            if (matcher.find()) {
                answers.append(matcher.group(1)).append('\n');
            } else if (line.contains("println")) {
                throw new AssertionError("no answer is told behind " + line);
            }
        }
        return answers.toString();
    }

    private static String outputOf(String command, Path folder) throws IOException, InterruptedException {
        Process process = new ProcessBuilder("sh", "-c", command)
            .directory(folder.toFile()).redirectError(ProcessBuilder.Redirect.INHERIT).start();
        String output = new String(process.getInputStream().readAllBytes());
        int end = process.waitFor();
        return end == 0 ? output : output + "ended with " + end;
    }

    private static void remove(Path folder) throws IOException {
        try (Stream<Path> files = Files.walk(folder)) {
            for (Path file : files.sorted(Comparator.reverseOrder()).toList()) {
                Files.delete(file);
            }
        }
    }
}
