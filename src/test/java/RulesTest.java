import java.io.IOException;
import java.lang.reflect.Field;
import java.lang.reflect.Method;
import java.lang.reflect.Modifier;
import java.nio.file.Files;
import java.nio.file.Path;
import java.util.ArrayList;
import java.util.List;
import java.util.Set;
import java.util.TreeSet;
import java.util.regex.Matcher;
import java.util.regex.Pattern;

/** Those rules of LANGUAGE.md that the source's text and the compiled class can show. */
public final class RulesTest {
    private static final Path SOURCE = Path.of("src/main/java/MaskLayers.java");
    private static final Set<String> EXCEPTIONS = Set.of("IllegalStateException", "IllegalArgumentException",
        "IndexOutOfBoundsException", "ArithmeticException", "UnsupportedOperationException",
        "NoSuchElementException", "RuntimeException");
    private static final Set<String> IMPORTS = Set.of("java.util.Arrays", "java.util.ArrayList", "java.util.List");
    private static final String[] FORBIDDEN = {"\\bpackage\\b", "->", "::", "\\bstatic \\{", "\\bfinally\\b", "\\btry\\b",
        "\\bsynchronized\\b", "\\bassert\\b", "Exact\\(", "hashCode", "toString", "\\bequals\\(", "\\bdouble\\b",
        "\\bfloat\\b", "\\bObject\\b", "\\bRandom\\b", "\\bThread\\b", "System\\.(?!arraycopy)", "while \\(true\\)", "for \\(;;\\)"};

    public static void main(String[] args) throws IOException {
        String source = Files.readString(SOURCE);
        String code = source.replaceAll("(?s)/\\*.*?\\*/", "").replaceAll("//[^\n]*", "").replaceAll("\"[^\"\n]*\"", "\"\"");
        words(code);
        throwsOnly(code);
        lengths(source.split("\n"));
        List<Class<?>> classes = new ArrayList<>(List.of(MaskLayers.class.getDeclaredClasses()));
        classes.add(MaskLayers.class);
        Checks.is("rule 11: classes", classes.size() <= 12, true);
        Set<String> face = names(MaskLayers.class, true);
        for (Class<?> c : classes) {
            oneClass(c, face);
        }
        Checks.end();
    }

    private static void words(String code) {
        for (String word : FORBIDDEN) {
            Checks.is("rules 2, 4, 6, 9, 13: " + word, Pattern.compile(word).matcher(code).find(), false);
        }
        Matcher m = Pattern.compile("import ([\\w.]+);").matcher(code);
        while (m.find()) {
            Checks.is("rule 4: " + m.group(1), IMPORTS.contains(m.group(1)), true);
        }
    }

    private static void throwsOnly(String code) {
        Matcher m = Pattern.compile("\\bthrow\\b(?! new (\\w+)\\(\"\"\\);)|\\bthrow new (\\w+)").matcher(code);
        while (m.find()) {
            Checks.is("rule 6: " + m.group(), m.group(2) != null && EXCEPTIONS.contains(m.group(2)), true);
        }
    }

    /** A method's lines go from its head to the brace that stands under the head's first letter. */
    private static void lengths(String[] lines) {
        Pattern head = Pattern.compile("( +)(public |private |static |final )*[\\w\\[\\]]+ \\w+\\(.*\\).*\\{");
        int methods = 0;
        for (int i = 0; i < lines.length; i++) {
            Matcher m = head.matcher(lines[i]);
            if (!m.matches() || lines[i].contains(" else ") || lines[i].contains(" new ")) {
                continue;
            }
            int end = i;
            while (!lines[end].equals(m.group(1) + "}")) {
                end++;
            }
            methods++;
            Checks.is("rule 11: lines of " + lines[i].trim(), end - i < 60, true);
        }
        Checks.is("rule 11: methods were found", methods > 50, true);
    }

    private static Set<String> names(Class<?> c, boolean seen) {
        Set<String> names = new TreeSet<>();
        for (Method m : c.getDeclaredMethods()) {
            if (Modifier.isPublic(m.getModifiers()) == seen && !m.isSynthetic()) {
                names.add(m.getName());
            }
        }
        return names;
    }

    private static void oneClass(Class<?> c, Set<String> face) {
        for (String name : names(c, false)) {
            Checks.is("rule 1: " + c.getSimpleName() + "." + name, face.contains(name), false);
        }
        for (Method m : c.getDeclaredMethods()) {
            Checks.is("rule 11: parameters of " + m, m.getParameterCount() <= 7, true);
        }
        int fields = 0;
        for (Field f : c.getDeclaredFields()) {
            boolean fixed = Modifier.isStatic(f.getModifiers());
            fields += fixed ? 0 : 1;
            Checks.is("rule 5: " + f, fixed && !Modifier.isFinal(f.getModifiers()), false);
        }
        Checks.is("rule 11: fields of " + c, fields <= 20, true);
    }
}
