import java.io.IOException;
import java.lang.reflect.InvocationTargetException;
import java.lang.reflect.Method;
import java.nio.file.Files;
import java.nio.file.Path;
import java.util.HashMap;
import java.util.HashSet;
import java.util.Map;
import java.util.Set;
import java.util.regex.Matcher;
import java.util.regex.Pattern;

/** Each call that README.md shows answers what stands behind it there, and no call is left out. */
public final class ReadmeTest {
    private static final Checks CHECKS = new Checks();
    private static final Pattern MADE = Pattern.compile("BitRows (\\w) = new BitRows\\((\\d+), (\\d+)\\);");
    private static final Pattern CALLED = Pattern.compile("(\\w)\\.(\\w+)\\((.*)\\);(?: +// (-?\\w+).*)?");

    private final Map<String, BitRows> objects = new HashMap<>();
    private final Set<String> shown = new HashSet<>();

    public static void main(String[] args) throws IOException, ReflectiveOperationException {
        new ReadmeTest().go();
        CHECKS.end();
    }

    private void go() throws IOException, ReflectiveOperationException {
        boolean inCode = false;
        for (String line : Files.readAllLines(Path.of("README.md"))) {
            if (line.startsWith("```")) {
                inCode = line.equals("```java");
            } else if (inCode) {
                follow(line);
            }
        }
        for (Method m : BitRows.class.getMethods()) {
            if (m.getDeclaringClass() == BitRows.class && !shown.contains(m.getName())) {
                CHECKS.tell("README.md shows no " + m.getName());
            }
        }
    }

    private void follow(String line) throws ReflectiveOperationException {
        Matcher made = MADE.matcher(line);
        Matcher called = CALLED.matcher(line);
        if (made.matches()) {
            int stuffing = Integer.parseInt(made.group(2));
            objects.put(made.group(1), new BitRows(stuffing, Integer.parseInt(made.group(3))));
        } else if (called.matches() && objects.containsKey(called.group(1))) {
            shown.add(called.group(2));
            String got = answer(objects.get(called.group(1)), called.group(2), called.group(3));
            if (!got.equals(due(called.group(4)))) {
                CHECKS.tell("README.md: " + line + ", but it answers " + got);
            }
        } else {
            CHECKS.tell("README.md: no call: " + line);
        }
    }

    private static String due(String told) {
        if (told == null) {
            return "null";
        }
        switch (told) {
            case "NONE":
                return "" + BitRows.NONE;
            case "MARK":
                return "" + BitRows.MARK;
            case "BAD":
                return "" + BitRows.BAD;
            default:
                return told;
        }
    }

    private static String answer(BitRows x, String name, String listed) throws ReflectiveOperationException {
        String[] texts = listed.isEmpty() ? new String[0] : listed.split(", ");
        for (Method m : BitRows.class.getMethods()) {
            if (m.getName().equals(name) && m.getParameterCount() == texts.length) {
                return called(x, m, texts);
            }
        }
        return "no such call";
    }

    private static String called(BitRows x, Method m, String[] texts) throws ReflectiveOperationException {
        Object[] values = new Object[texts.length];
        for (int i = 0; i < texts.length; i++) {
            boolean truth = m.getParameterTypes()[i] == boolean.class;
            values[i] = truth ? (Object) Boolean.valueOf(texts[i]) : Integer.decode(texts[i]);
        }
        try {
            return "" + m.invoke(x, values);
        } catch (InvocationTargetException e) {
            return "" + e.getCause();
        }
    }
}
