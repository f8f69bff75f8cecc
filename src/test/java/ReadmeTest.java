import java.io.IOException;
import java.nio.file.Files;
import java.nio.file.Path;
import java.util.List;
import java.util.regex.Matcher;
import java.util.regex.Pattern;
import java.util.stream.Stream;

/** What README.md says is so: its game has the answers told there, and it names each test. */
public final class ReadmeTest {
    private static final Pattern LINE =
        Pattern.compile("(?:int (\\w+) = )?village\\.(\\w+\\([^()]*\\));(?: *// (.*))?");
    private static final Pattern ANSWER = Pattern.compile("('.'|-?\\d+|true|false|\\w+Exception)(?::.*)?");
    private static final Checks CHECKS = new Checks("ReadmeTest");

    private ReadmeTest() {
    }

    public static void main(String[] args) throws IOException {
        String readme = Files.readString(Path.of("README.md"));
        game(readme);
        tests(readme);
        CHECKS.end();
    }

    private static void game(String readme) {
        Matcher block = Pattern.compile("```java\n(.*?)```", Pattern.DOTALL).matcher(readme);
        CHECKS.is("there is a game", block.find(), true);
        List<String> lines = block.group(1).lines().toList();
        CHECKS.is("it begins with", lines.get(0), "NightfallVillage village = new NightfallVillage();");
        Script script = new Script();
        for (String line : lines.subList(1, lines.size())) {
            Matcher call = LINE.matcher(line);
            CHECKS.is("a call: " + line, call.matches(), true);
            Matcher answer = ANSWER.matcher(String.valueOf(call.group(3)));
            CHECKS.is("has an answer: " + line, answer.matches(), true);
            String due = answer.group(1).replace("'", "");
            if (call.group(1) == null) {
                CHECKS.is(line, script.answer(call.group(2)), due);
            } else {
                script.keep(call.group(1), call.group(2));
                CHECKS.is(line, script.kept(call.group(1)), due);
            }
        }
    }

    private static void tests(String readme) throws IOException {
        CHECKS.is("how to run the tests", readme.contains("\n    .ci/run\n"), true);
        CHECKS.is("which can be run", Files.isExecutable(Path.of(".ci/run")), true);
        try (Stream<Path> files = Files.list(Path.of("src/test/java"))) {
            for (Path file : files.toList()) {
                String name = file.getFileName().toString().replace(".java", "");
                CHECKS.is(name + " is named", readme.contains("`" + name + "`"), true);
            }
        }
        Matcher named = Pattern.compile("`(\\w+Test)`").matcher(readme);
        while (named.find()) {
            CHECKS.is(named.group(1) + " is there",
                Files.exists(Path.of("src/test/java/" + named.group(1) + ".java")), true);
        }
    }
}
