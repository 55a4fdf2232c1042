import java.io.ByteArrayOutputStream;
import java.io.IOException;
import java.io.PrintStream;
import java.lang.reflect.Field;
import java.lang.reflect.Modifier;
import java.nio.charset.StandardCharsets;
import java.nio.file.Files;
import java.nio.file.Path;
import java.util.List;
import java.util.regex.Pattern;
import java.util.stream.Stream;

/** What README.md says: its example is one that compiles and answers so; its constants and its tests are those there are. */
public final class ReadmeTest {
    private static final Path TESTS = Path.of("src/test/java");
    private static final Checks checks = new Checks();

    public static void main(String[] args) throws IOException, IllegalAccessException {
        String readme = Files.readString(Path.of("README.md"));
        String example = Files.readString(TESTS.resolve("Example.java"));
        checks.due("the example of README.md is Example.java", readme.contains("```java\n" + example + "```\n") ? 1 : 0, 1);
        answers(example);
        constants(readme);
        tests(readme);
        checks.due(".ci/run can be run", Files.isExecutable(Path.of(".ci/run")) ? 1 : 0, 1);
        checks.end("ReadmeTest");
    }

    /** Each call is said with its answer behind it: "say(..);  // 4: .." */
    private static void answers(String example) {
        List<String> want = Pattern.compile("say\\(.*\\); +// (-?[0-9]+)\\b").matcher(example).results()
            .map(say -> say.group(1)).toList();
        List<String> got = said().lines().toList();
        checks.due("answers of the example", got.size(), want.size());
        for (int i = 0; i < want.size() && i < got.size(); i++) {
            checks.due("answer " + i + " of the example", Long.parseLong(got.get(i)), Long.parseLong(want.get(i)));
        }
    }

    private static String said() {
        PrintStream console = System.out;
        ByteArrayOutputStream bytes = new ByteArrayOutputStream();
        try {
            System.setOut(new PrintStream(bytes, true, StandardCharsets.UTF_8));
            Example.main(new String[0]);
        } finally {
            System.setOut(console);
        }
        return bytes.toString(StandardCharsets.UTF_8);
    }

    private static void constants(String readme) throws IllegalAccessException {
        for (Field field : BallTown.class.getFields()) {
            if (Modifier.isStatic(field.getModifiers())) {
                String row = "\n| `" + field.getName() + "` | " + field.getInt(null) + " | ";
                checks.due("README.md tells of " + row.strip(), readme.contains(row) ? 1 : 0, 1);
            }
        }
    }

    private static void tests(String readme) throws IOException {
        try (Stream<Path> all = Files.list(TESTS)) {
            for (Path file : all.sorted().toList()) {
                String name = file.getFileName().toString().replace(".java", "");
                checks.due("README.md tells of " + name, readme.contains("`" + name + "`") ? 1 : 0, 1);
            }
        }
    }
}
