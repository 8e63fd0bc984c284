import java.lang.reflect.Constructor;
import java.lang.reflect.Field;
import java.lang.reflect.Method;
import java.lang.reflect.Modifier;
import java.util.ArrayList;
import java.util.Arrays;
import java.util.Collections;
import java.util.List;

/** The public face of the document, to the letter, and no member more that can be seen. */
public final class FaceTest {
    private static final String[] FACE = {
        "boolean filled(int, int, int) IllegalStateException IndexOutOfBoundsException IllegalArgumentException",
        "int alter(int, int) IndexOutOfBoundsException IllegalArgumentException",
        "int at(int, int) IllegalStateException IndexOutOfBoundsException",
        "int byteAt(int) IndexOutOfBoundsException",
        "int feed(int) IllegalArgumentException UnsupportedOperationException",
        "int joined(int, int) IllegalStateException IndexOutOfBoundsException",
        "int layer(int, int, int) IllegalStateException IndexOutOfBoundsException IllegalArgumentException",
        "int mask(int, int, int, boolean) IndexOutOfBoundsException IllegalArgumentException",
        "int pass(int, int) IndexOutOfBoundsException IllegalArgumentException UnsupportedOperationException",
        "int put(int, int, int, int) IndexOutOfBoundsException IllegalArgumentException",
        "int read()",
        "int run(int, int, boolean) IllegalArgumentException",
        "int stripe(int) IllegalArgumentException",
        "int told(int)",
        "int write() IllegalStateException",
        "void clear()"};

    public static void main(String[] args) {
        Class<MaskLayers> face = MaskLayers.class;
        Checks.is("the class is public and final", face.getModifiers(), Modifier.PUBLIC | Modifier.FINAL);
        Checks.is("NONE", MaskLayers.NONE, -1);
        methods(face);
        for (Constructor<?> c : face.getDeclaredConstructors()) {
            Checks.is("the constructor", Arrays.equals(c.getParameterTypes(), new Class<?>[] {int.class, int.class}), true);
        }
        for (Field f : face.getDeclaredFields()) {
            Checks.is("field " + f.getName(), Modifier.isPrivate(f.getModifiers()), !f.getName().equals("NONE"));
            Checks.is("static and not final: " + f.getName(),
                Modifier.isStatic(f.getModifiers()) && !Modifier.isFinal(f.getModifiers()), false);
        }
        for (Class<?> inside : face.getDeclaredClasses()) {
            Checks.is("static: " + inside, Modifier.isStatic(inside.getModifiers()), true);
            Checks.is("public: " + inside, Modifier.isPublic(inside.getModifiers()), false);
        }
        Checks.end();
    }

    private static void methods(Class<MaskLayers> face) {
        List<String> seen = new ArrayList<>();
        List<String> hidden = new ArrayList<>();
        for (Method m : face.getDeclaredMethods()) {
            if (Modifier.isPrivate(m.getModifiers())) {
                hidden.add(m.getName());
            } else if (!m.isSynthetic()) {
                seen.add(told(m));
            }
        }
        Collections.sort(seen);
        Checks.is("as many methods", seen.size(), FACE.length);
        for (String due : FACE) {
            Checks.is(due, seen.contains(due), true);
            Checks.is("hidden: " + due, hidden.contains(due.substring(due.indexOf(' ') + 1, due.indexOf('('))), false);
        }
    }

    private static String told(Method m) {
        StringBuilder text = new StringBuilder();
        text.append(m.getReturnType().getName()).append(' ').append(m.getName()).append('(');
        for (int i = 0; i < m.getParameterCount(); i++) {
            text.append(i == 0 ? "" : ", ").append(m.getParameterTypes()[i].getName());
        }
        text.append(')');
        for (Class<?> e : m.getExceptionTypes()) {
            text.append(' ').append(e.getSimpleName());
        }
        return text.toString();
    }
}
