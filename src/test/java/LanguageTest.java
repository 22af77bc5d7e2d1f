import java.io.IOException;
import java.lang.reflect.Field;
import java.lang.reflect.Modifier;
import java.nio.file.Files;
import java.nio.file.Path;
import java.util.Arrays;
import java.util.List;
import java.util.regex.Matcher;
import java.util.regex.Pattern;

/** What can be seen of the rules of LANGUAGE.md in the class and its text; each is told by its number. */
public final class LanguageTest {
    private static final Checks CHECKS = new Checks();
    private static final Path CLASS = Path.of("src/main/java/BitRows.java");

    /** Stricter than the rules are, where the class has no need of what they leave (try, System). */
    private static final String[][] RULED_OUT = {
        {"0", "^package "},
        {"2", "->"}, {"2", "::"},
        {"3", "\\bObject\\b"}, {"3", "\\bMap\\b"}, {"3", "\\bSet\\b"}, {"3", "\\bvar\\b"},
        {"4", "Exact\\("},
        {"5", "\\bstatic \\{"},
        {"6", "\\btry\\b"}, {"6", "\\bcatch\\b"}, {"6", "\\bfinally\\b"}, {"6", "\\bsynchronized\\b"},
        {"6", "\\bassert\\b"}, {"6", "getMessage"}, {"6", "\\b(equals|hashCode|toString)\\("},
        {"9", "while \\(true\\)"}, {"9", "for \\(;;\\)"},
        {"13", "\\b(System|Thread|Random|Math\\.random|Instant)\\b"},
    };
    private static final List<String> IMPORTS = Arrays.asList("import java.util.Arrays;",
            "import java.util.ArrayList;", "import java.util.List;");
    private static final Pattern THROWN = Pattern.compile("throw [^;]*;");
    private static final Pattern THROWN_RIGHTLY = Pattern.compile("throw new (IllegalStateException"
            + "|IllegalArgumentException|IndexOutOfBoundsException|UnsupportedOperationException)\\((\"\")?\\);");
    private static final Pattern METHOD = Pattern.compile("^( +)[^ /*}].*\\(.*");

    public static void main(String[] args) throws IOException {
        String text = Files.readString(CLASS);
        String code = text.replaceAll("(?s)/\\*.*?\\*/", "").replaceAll("//[^\n]*", "")
                .replaceAll("\"[^\"\n]*\"", "\"\"");
        for (String[] rule : RULED_OUT) {
            Matcher found = Pattern.compile(rule[1], Pattern.MULTILINE).matcher(code);
            if (found.find()) {
                CHECKS.tell("rule " + rule[0] + ": " + found.group());
            }
        }
        imports(code);
        thrown(code);
        staticFields(BitRows.class);
        for (Class<?> inside : BitRows.class.getDeclaredClasses()) {
            staticFields(inside);
        }
        lengths(code);
        CHECKS.end();
    }

    private static void imports(String code) {
        for (String line : code.split("\n")) {
            if (line.startsWith("import ") && !IMPORTS.contains(line)) {
                CHECKS.tell("rule 4: " + line);
            }
        }
    }

    private static void thrown(String code) {
        Matcher found = THROWN.matcher(code);
        while (found.find()) {
            if (!THROWN_RIGHTLY.matcher(found.group()).matches()) {
                CHECKS.tell("rule 6: " + found.group());
            }
        }
    }

    private static void staticFields(Class<?> of) {
        for (Field f : of.getDeclaredFields()) {
            if (Modifier.isStatic(f.getModifiers()) && !Modifier.isFinal(f.getModifiers())) {
                CHECKS.tell("rule 5: " + f);
            }
        }
    }

    /** Rule 11: methods of some sixty lines, seven parameters, some twelve classes. */
    private static void lengths(String code) {
        String[] lines = code.split("\n");
        int classes = 0;
        for (int i = 0; i < lines.length; i++) {
            classes += lines[i].matches(".*\\b(class|interface|enum|record) \\w+.*\\{") ? 1 : 0;
            Matcher method = METHOD.matcher(lines[i]);
            if (method.matches() && (method.group(1).length() == 4 || method.group(1).length() == 8)) {
                lengthOfMethod(lines, i, method.group(1));
            }
        }
        if (classes == 0 || classes > 12) {
            CHECKS.tell("rule 11: classes " + classes);
        }
    }

    private static void lengthOfMethod(String[] lines, int begin, String indent) {
        String parameters = lines[begin].replaceAll("^[^(]*\\(([^)]*)\\)?.*", "$1");
        if (parameters.split(",").length > 7) {
            CHECKS.tell("rule 11: parameters of " + lines[begin].trim());
        }
        for (int i = begin; i < lines.length; i++) {
            if (lines[i].equals(indent + "}")) {
                if (i - begin > 60) {
                    CHECKS.tell("rule 11: the length of " + lines[begin].trim());
                }
                return;
            }
        }
    }
}
