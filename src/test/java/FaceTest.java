import java.lang.reflect.Constructor;
import java.lang.reflect.Field;
import java.lang.reflect.Method;
import java.lang.reflect.Modifier;
import java.util.ArrayList;
import java.util.Arrays;
import java.util.Collections;
import java.util.List;

/**
 * The public face: each member of the document, with the exceptions that it names in their order, and
 * no other one that is not private.
 */
public final class FaceTest {
    private static final Checks CHECKS = new Checks();
    private static final String STATE = "IllegalStateException";
    private static final String ARGUMENT = "IllegalArgumentException";
    private static final String INDEX = "IndexOutOfBoundsException";
    private static final String OPERATION = "UnsupportedOperationException";

    private static final String[] DUE = {
        "NONE=-1", "MARK=-2", "BAD=-3",
        "BitRows(int,int)()",
        "int put(int,int)" + thrown(ARGUMENT, OPERATION),
        "int align()" + thrown(OPERATION),
        "int mark(int)" + thrown(STATE, ARGUMENT, OPERATION),
        "int patch(int,int,int)" + thrown(STATE, ARGUMENT, INDEX),
        "int byteAt(int)" + thrown(INDEX),
        "int feed(int)" + thrown(ARGUMENT, OPERATION),
        "int pass(int,int)" + thrown(INDEX, ARGUMENT, OPERATION),
        "long get(int)" + thrown(ARGUMENT),
        "int skip()" + thrown(),
        "int take()" + thrown(),
        "int find(int)" + thrown(INDEX),
        "int sum(boolean,int,int,int)" + thrown(ARGUMENT, INDEX),
        "int told(int)" + thrown(),
        "void clear()" + thrown(),
    };

    public static void main(String[] args) throws IllegalAccessException {
        List<String> due = new ArrayList<>(Arrays.asList(DUE));
        List<String> found = membersFound();
        Collections.sort(due);
        Collections.sort(found);
        if (!due.equals(found)) {
            CHECKS.tell("the face is " + found + ", due is " + due);
        }
        int modifiers = BitRows.class.getModifiers();
        CHECKS.due("public and final", Modifier.PUBLIC | Modifier.FINAL, modifiers);
        classesInside();
        namesOfPrivateMethods();
        CHECKS.end();
    }

    private static List<String> membersFound() throws IllegalAccessException {
        List<String> found = new ArrayList<>();
        for (Field f : BitRows.class.getDeclaredFields()) {
            if (!Modifier.isPrivate(f.getModifiers())) {
                CHECKS.due(f.getName() + " is a constant", Modifier.PUBLIC | Modifier.STATIC | Modifier.FINAL,
                        f.getModifiers());
                found.add(f.getName() + "=" + f.getInt(null));
            }
        }
        for (Constructor<?> c : BitRows.class.getDeclaredConstructors()) {
            CHECKS.due("its constructor is public", Modifier.PUBLIC, c.getModifiers());
            found.add("BitRows" + listed(c.getParameterTypes()) + listed(c.getExceptionTypes()));
        }
        for (Method m : BitRows.class.getDeclaredMethods()) {
            if (!Modifier.isPrivate(m.getModifiers())) {
                CHECKS.due(m.getName() + " is public", Modifier.PUBLIC, m.getModifiers());
                found.add(m.getReturnType() + " " + m.getName() + listed(m.getParameterTypes())
                        + listed(m.getExceptionTypes()));
            }
        }
        return found;
    }

    private static void classesInside() {
        for (Class<?> c : BitRows.class.getDeclaredClasses()) {
            int modifiers = c.getModifiers();
            if (Modifier.isPublic(modifiers) || Modifier.isProtected(modifiers) || !Modifier.isStatic(modifiers)) {
                CHECKS.tell(c + " is not private, or package-visible, and static");
            }
        }
    }

    private static void namesOfPrivateMethods() {
        List<String> names = new ArrayList<>();
        for (Method m : BitRows.class.getMethods()) {
            names.add(m.getName());
        }
        for (Method m : BitRows.class.getDeclaredMethods()) {
            if (Modifier.isPrivate(m.getModifiers()) && names.contains(m.getName())) {
                CHECKS.tell("a private method bears a public one's name: " + m.getName());
            }
        }
    }

    private static String thrown(String... names) {
        List<String> full = new ArrayList<>();
        for (String name : names) {
            full.add("java.lang." + name);
        }
        return "(" + String.join(",", full) + ")";
    }

    private static String listed(Class<?>[] types) {
        List<String> names = new ArrayList<>();
        for (Class<?> type : types) {
            names.add(type.getName());
        }
        return "(" + String.join(",", names) + ")";
    }
}
