import java.io.IOException;
import java.lang.reflect.Field;
import java.lang.reflect.Method;
import java.lang.reflect.Modifier;
import java.nio.file.Files;
import java.nio.file.Path;
import java.util.List;
import java.util.regex.Matcher;
import java.util.regex.Pattern;

/** Those rules of LANGUAGE.md that can be seen in the text of the class; its path is the first argument. */
final class LanguageTest {
    private static final List<String> NEVER = List.of(
        "try", "catch", "finally", "synchronized", "assert", "package", "protected", "instanceof", "volatile",
        "native", "Thread", "System", "Random", "Object", "HashMap", "Exact", "hashCode", "toString");

    private static final Pattern METHOD = Pattern.compile("( +)[\\w\\[\\] ]+\\(([^()]*)\\)( throws [\\w, ]+)? \\{");

    public static void main(String[] args) throws IOException {
        List<String> lines = Files.readAllLines(Path.of(args[0]));
        for (String line : lines) {
            look(line.replaceAll("\"[^\"]*\"", "\"\"").replaceAll("//.*|^ *(/\\*\\*|\\*).*", ""), line);
        }
        lookAtMethods(lines);
        lookAtClasses();
        Check.finish();
    }

    private static void look(String code, String line) {
        for (String word : NEVER) {
            if (code.matches(".*\\b" + word + "\\b.*")) {
                Check.report(word + ": " + line);
            }
        }
        if (code.contains("->") || code.contains("::")) {
            Check.report("a lambda: " + line);
        }
        if (code.startsWith("import ") && !code.matches("import java\\.util\\.(Arrays|NoSuchElementException);")) {
            Check.report("an import: " + line);
        }
        if (code.matches(".*\\bthrow\\b.*") && !code.matches(" *throw new \\w+\\(\"\"\\);")) {
            Check.report("a throw: " + line);
        }
        if (code.matches(".*\\bstatic\\b.*;") && !code.matches(" *(public |private )?static final int \\w+ = .*;")) {
            Check.report("static state: " + line);
        }
        if (code.matches(".*\\bwhile\\b.*")) {
            Check.report("a loop without a counter: " + line);
        }
    }

    private static void lookAtMethods(List<String> lines) {
        for (int start = 0; start < lines.size(); start++) {
            Matcher method = METHOD.matcher(lines.get(start));
            if (!method.matches()) {
                continue;
            }
            if (method.group(2).split(",").length > 7) {
                Check.report("more than seven parameters: " + lines.get(start));
            }
            int end = start + lines.subList(start, lines.size()).indexOf(method.group(1) + "}");
            if (end - start >= 60) {
                Check.report("more than sixty lines: " + lines.get(start));
            }
        }
    }

    private static void lookAtClasses() {
        Class<?>[] inside = ChannelMachine.class.getDeclaredClasses();
        if (inside.length + 1 > 12) {
            Check.report("more than twelve classes: " + (inside.length + 1));
        }
        lookAtClass(ChannelMachine.class);
        for (Class<?> one : inside) {
            lookAtClass(one);
            if (!Modifier.isStatic(one.getModifiers()) || Modifier.isPublic(one.getModifiers())) {
                Check.report("a class inside is neither private nor package-visible, or not static: " + one);
            }
        }
    }

    private static void lookAtClass(Class<?> one) {
        int fields = 0;
        for (Field field : one.getDeclaredFields()) {
            if (!Modifier.isStatic(field.getModifiers())) {
                fields++;
            }
        }
        if (fields > 20) {
            Check.report("more than twenty fields: " + one);
        }
        for (Method method : one.getDeclaredMethods()) {
            if (!Modifier.isPublic(method.getModifiers()) && isOfTheFace(method.getName())) {
                Check.report("bears the name of a public method: " + method);
            }
        }
    }

    private static boolean isOfTheFace(String name) {
        for (Method method : ChannelMachine.class.getDeclaredMethods()) {
            if (Modifier.isPublic(method.getModifiers()) && method.getName().equals(name)) {
                return true;
            }
        }
        return false;
    }
}
