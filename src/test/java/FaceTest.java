import java.lang.reflect.Constructor;
import java.lang.reflect.Field;
import java.lang.reflect.Method;
import java.lang.reflect.Modifier;
import java.util.ArrayList;
import java.util.Arrays;
import java.util.Collections;
import java.util.List;

/** The public face: each member of the document, and no other one that is not private. */
public final class FaceTest {
    private static final String[] DUE = {
        "NONE=-1", "MARK=-2", "BAD=-3",
        "BitRows(int,int)",
        "int put(int,int)", "int align()", "int mark(int)", "int patch(int,int,int)",
        "int byteAt(int)", "int feed(int)", "int pass(int,int)", "long get(int)", "int skip()",
        "int take()", "int find(int)", "int sum(boolean,int,int,int)", "int told(int)",
        "void clear()",
    };

    public static void main(String[] args) throws IllegalAccessException {
        List<String> due = new ArrayList<>(Arrays.asList(DUE));
        List<String> found = new ArrayList<>();
        for (Field f : BitRows.class.getDeclaredFields()) {
            if (!Modifier.isPrivate(f.getModifiers())) {
                found.add(f.getName() + "=" + f.getInt(null));
            }
        }
        for (Constructor<?> c : BitRows.class.getDeclaredConstructors()) {
            found.add("BitRows" + listed(c.getParameterTypes()));
        }
        for (Method m : BitRows.class.getDeclaredMethods()) {
            if (!Modifier.isPrivate(m.getModifiers())) {
                found.add(m.getReturnType() + " " + m.getName() + listed(m.getParameterTypes()));
            }
        }
        Collections.sort(due);
        Collections.sort(found);
        Checks checks = new Checks();
        if (!due.equals(found)) {
            checks.tell("the face is " + found + ", due is " + due);
        }
        int modifiers = BitRows.class.getModifiers();
        checks.due("public and final", Modifier.PUBLIC | Modifier.FINAL, modifiers);
        checks.end();
    }

    private static String listed(Class<?>[] types) {
        List<String> names = new ArrayList<>();
        for (Class<?> type : types) {
            names.add(type.getName());
        }
        return "(" + String.join(",", names) + ")";
    }
}
