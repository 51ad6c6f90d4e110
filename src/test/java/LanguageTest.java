import java.nio.file.Files;
import java.nio.file.Path;
import java.util.List;
import java.util.regex.Matcher;
import java.util.regex.Pattern;

/** Those rules of LANGUAGE.md that the text of the program shows. */
public final class LanguageTest {
    private static final Path SOURCE = Path.of("src/main/java/TunnelRing.java");
    private static final String[] RULED_OUT = {"->", "::", "\\btry\\b", "\\bcatch\\b",
        "\\bfinally\\b", "\\bassert\\b", "\\bsynchronized\\b", "\\binstanceof\\b", "\\bpackage\\b",
        "\\bprotected\\b", "static \\{", "\\bthrow (?!new \\w+\\(\"[^\"]*\"\\);)", "Exact\\(",
        "\\bSystem\\.", "\\bstatic (?!final )\\w+(\\[\\])? \\w+( =|;)", "[^\\x00-\\x7f]",
        "\\bInteger\\.[A-Z]", "\\bdouble \\w+ =", "\\bfloat \\w+ ="};

    public static void main(String[] args) throws java.io.IOException {
        String code = Files.readString(SOURCE).replaceAll("(?s)/\\*.*?\\*/|//[^\n]*", "");
        for (String pattern : RULED_OUT) {
            Matcher matcher = Pattern.compile(pattern).matcher(code);
            Check.same("the program has no " + pattern, matcher.find(), false);
        }
        Check.same("imports", code.lines().filter(l -> l.startsWith("import "))
                .toList(), List.of("import java.util.NoSuchElementException;"));
        Check.same("library calls", code.replaceAll("\\bMath\\.(abs|max|min)\\(", "")
                .contains("Math."), false);
        Check.same("at most 12 classes", Pattern.compile("\\bclass \\w+").matcher(code)
                .results().count() <= 12, true);
        objectsAreMadeInConstructors(code);
        methodsAreShort(Files.readAllLines(SOURCE));
        Check.end();
    }

    /** A run of calls makes no objects but the tunnels and what they throw. */
    private static void objectsAreMadeInConstructors(String code) {
        String constructor = code.substring(code.indexOf("public TunnelRing()"),
                code.indexOf("public int addGround"));
        String rest = code.replace(constructor, "").replaceAll("throw new \\w+", "")
                .replaceAll("final \\w+(\\[\\])? \\w+ = new ", "");
        Check.same("objects are made in constructors alone", rest.contains("new "), false);
    }

    /** Methods are parted by a blank line and hold none, so no block may be longer than a method. */
    private static void methodsAreShort(List<String> lines) {
        int blank = -1;
        for (int line = 0; line < lines.size(); line++) {
            if (lines.get(line).isBlank()) {
                blank = line;
            }
            Check.same("line " + (line + 1) + " is in a short block", line - blank <= 60, true);
        }
    }
}
