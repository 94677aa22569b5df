import java.io.IOException;
import java.nio.file.Files;
import java.nio.file.Path;
import java.util.List;
import java.util.regex.Matcher;
import java.util.regex.Pattern;

/** Those rules of LANGUAGE.md that can be seen in the text of the class; its path is the first argument. */
final class LanguageTest {
    private static final List<String> NEVER = List.of(
        "try", "catch", "finally", "synchronized", "assert", "package", "protected", "instanceof", "volatile",
        "native", "Thread", "System", "Random", "Object", "HashMap", "Exact", "hashCode", "toString");

    private static final Pattern METHOD = Pattern.compile("( +)[\\w\\[\\] ]+\\(([^()]*)\\)( throws [\\w, ]+)? \\{");

    public static void main(String[] args) throws IOException {
        List<String> lines = Files.readAllLines(Path.of(args[0]));
        for (String line : lines) {
            look(line.replaceAll("\"[^\"]*\"", "\"\"").replaceAll("//.*|^ *(/\\*\\*|\\*).*", ""), line);
        }
        lookAtMethods(lines);
        Check.finish();
    }

    private static void look(String code, String line) {
        for (String word : NEVER) {
            if (code.matches(".*\\b" + word + "\\b.*")) {
                Check.report(word + ": " + line);
            }
        }
        if (code.contains("->") || code.contains("::")) {
            Check.report("a lambda: " + line);
        }
        if (code.startsWith("import ") && !code.matches("import java\\.util\\.(Arrays|NoSuchElementException);")) {
            Check.report("an import: " + line);
        }
        if (code.matches(".*\\bthrow\\b.*") && !code.matches(" *throw new \\w+\\(\"\"\\);")) {
            Check.report("a throw: " + line);
        }
        if (code.matches(".*\\bstatic\\b.*;") && !code.matches(" *(public |private )?static final int \\w+ = .*;")) {
            Check.report("static state: " + line);
        }
        if (code.matches(".*\\bwhile\\b.*")) {
            Check.report("a loop without a counter: " + line);
        }
    }

    private static void lookAtMethods(List<String> lines) {
        for (int start = 0; start < lines.size(); start++) {
            Matcher method = METHOD.matcher(lines.get(start));
            if (!method.matches()) {
                continue;
            }
            if (method.group(2).split(",").length > 7) {
                Check.report("more than seven parameters: " + lines.get(start));
            }
            int end = start + lines.subList(start, lines.size()).indexOf(method.group(1) + "}");
            if (end - start >= 60) {
                Check.report("more than sixty lines: " + lines.get(start));
            }
        }
    }
}
