import java.io.IOException;
import java.nio.file.Files;
import java.nio.file.Path;
import java.util.Arrays;
import java.util.List;
import java.util.regex.Matcher;
import java.util.regex.Pattern;
import java.util.stream.Collectors;
import java.util.stream.Stream;

/** README.md: the calls of its example answer as it says, and it names each call and each test. */
public final class ReadmeTest {
    private static final Pattern CALL = Pattern.compile(
            "(?:\\w+ \\w+ = )?tunnel\\.(\\w+)\\(([-\\d, ]*)\\);\\s*// (.+)");

    public static void main(String[] args) throws IOException {
        String page = Files.readString(Path.of("README.md"));
        exampleAnswers(page.substring(page.indexOf("```java\n"), page.indexOf("```\n\n")));
        for (String name : Driven.face()) {
            Check.same("README.md names " + name, page.contains("`" + name + "`"), true);
        }
        Check.same("the tests that README.md names", named(page), tests());
        Check.end();
    }

    private static void exampleAnswers(String example) {
        List<String> lines = example.lines().skip(1).collect(Collectors.toList());
        Check.same("first line", lines.get(0), "TunnelRing tunnel = new TunnelRing();");
        Driven tunnel = new Driven();
        for (String line : lines.subList(1, lines.size())) {
            Matcher call = CALL.matcher(line);
            boolean readable = call.matches();
            Check.same(line + " is a call with its answer", readable, true);
            if (readable) {
                String due = call.group(3).replace("throws ", "throws.").replace("'", "");
                Check.same(line, tunnel.call(call.group(1), numbers(call.group(2))), due);
            }
        }
    }

    private static int[] numbers(String arguments) {
        return Arrays.stream(arguments.split(", ")).filter(word -> !word.isEmpty())
                .mapToInt(Integer::parseInt).toArray();
    }

    private static List<String> named(String page) {
        return Pattern.compile("(?m)^\\| `(\\w+Test)` \\|").matcher(page).results()
                .map(result -> result.group(1)).sorted().collect(Collectors.toList());
    }

    private static List<String> tests() throws IOException {
        try (Stream<Path> files = Files.list(Path.of("src/test/java"))) {
            return files.map(file -> file.getFileName().toString())
                    .filter(name -> name.endsWith("Test.java"))
                    .map(name -> name.replace(".java", "")).sorted().collect(Collectors.toList());
        }
    }
}
