import java.io.IOException;
import java.lang.reflect.Field;
import java.lang.reflect.Method;
import java.lang.reflect.Modifier;
import java.nio.file.Files;
import java.nio.file.Path;
import java.util.ArrayList;
import java.util.List;
import java.util.Map;
import java.util.Set;
import java.util.TreeMap;
import java.util.TreeSet;
import java.util.regex.Matcher;
import java.util.regex.Pattern;

/** Those rules of LANGUAGE.md that the source's text and the compiled class can show. */
public final class RulesTest {
    private static final Path SOURCE = Path.of("src/main/java/MaskLayers.java");
    private static final Set<String> EXCEPTIONS = Set.of("IllegalStateException", "IllegalArgumentException",
        "IndexOutOfBoundsException", "ArithmeticException", "UnsupportedOperationException",
        "NoSuchElementException", "RuntimeException");
    private static final Set<String> IMPORTS = Set.of("java.util.Arrays", "java.util.ArrayList", "java.util.List");
    private static final String[] FORBIDDEN = {"\\bpackage\\b", "->", "::", "\\bstatic \\{", "\\bfinally\\b", "\\btry\\b",
        "\\bsynchronized\\b", "\\bassert\\b", "Exact\\(", "hashCode", "toString", "\\bequals\\(", "\\bdouble\\b",
        "\\bfloat\\b", "\\bObject\\b", "\\bRandom\\b", "\\bThread\\b", "System\\.(?!arraycopy)", "while \\(true\\)", "for \\(;;\\)"};

    public static void main(String[] args) throws IOException {
        String source = Files.readString(SOURCE);
        String code = source.replaceAll("(?s)/\\*.*?\\*/", "").replaceAll("//[^\n]*", "").replaceAll("\"[^\"\n]*\"", "\"\"");
        words(code);
        throwsOnly(code);
        methods(source.split("\n"));
        List<Class<?>> classes = new ArrayList<>(List.of(MaskLayers.class.getDeclaredClasses()));
        classes.add(MaskLayers.class);
        Checks.is("rule 11: classes", classes.size() <= 12, true);
        Set<String> face = names(MaskLayers.class, true);
        for (Class<?> c : classes) {
            oneClass(c, face);
        }
        Checks.end();
    }

    private static void words(String code) {
        for (String word : FORBIDDEN) {
            Checks.is("rules 2, 4, 6, 9, 13: " + word, Pattern.compile(word).matcher(code).find(), false);
        }
        Matcher m = Pattern.compile("import ([\\w.]+);").matcher(code);
        while (m.find()) {
            Checks.is("rule 4: " + m.group(1), IMPORTS.contains(m.group(1)), true);
        }
    }

    private static void throwsOnly(String code) {
        Matcher m = Pattern.compile("\\bthrow\\b(?! new (\\w+)\\(\"\"\\);)|\\bthrow new (\\w+)").matcher(code);
        while (m.find()) {
            Checks.is("rule 6: " + m.group(), m.group(2) != null && EXCEPTIONS.contains(m.group(2)), true);
        }
    }

    /** A method's lines go from its head to the brace that stands under the head's first letter. */
    private static void methods(String[] lines) {
        Pattern head = Pattern.compile("( +)(public |private |static |final )*[\\w\\[\\]]+ (\\w+)\\(.*\\).*\\{");
        Map<String, Set<String>> calls = new TreeMap<>();
        for (int i = 0; i < lines.length; i++) {
            Matcher m = head.matcher(lines[i]);
            if (!m.matches()) {
                continue;
            }
            // Methods of one name count as one, so that the depth told is never below the true one.
            Set<String> called = calls.computeIfAbsent(m.group(3), k -> new TreeSet<>());
            int end = i + 1;
            while (!lines[end].equals(m.group(1) + "}")) {
                addCalls(lines[end], called);
                end++;
            }
            Checks.is("rule 11: lines of " + lines[i].trim(), end - i < 60, true);
        }
        for (String name : names(MaskLayers.class, true)) {
            Checks.is("rule 11: " + name + " was found", calls.containsKey(name), true);
            int deep = depthOf(name, calls, new TreeSet<>());
            Checks.is("rules 8, 11: " + deep + " calls stand open in " + name + ", at most eight", deep <= 8, true);
        }
    }

    private static void addCalls(String line, Set<String> called) {
        Matcher m = Pattern.compile("\\b(\\w+)\\(").matcher(line);
        while (m.find()) {
            called.add(m.group(1));
        }
    }

    /** How many methods of the class stand open at most from this one on; far too many if they go in a circle. */
    private static int depthOf(String method, Map<String, Set<String>> calls, Set<String> open) {
        if (!calls.containsKey(method)) {
            return 0;
        }
        if (!open.add(method)) {
            return 1000;
        }
        int deepest = 0;
        for (String called : calls.get(method)) {
            deepest = Math.max(deepest, depthOf(called, calls, open));
        }
        open.remove(method);
        return deepest + 1;
    }

    private static Set<String> names(Class<?> c, boolean seen) {
        Set<String> names = new TreeSet<>();
        for (Method m : c.getDeclaredMethods()) {
            if (Modifier.isPublic(m.getModifiers()) == seen && !m.isSynthetic()) {
                names.add(m.getName());
            }
        }
        return names;
    }

    private static void oneClass(Class<?> c, Set<String> face) {
        for (String name : names(c, false)) {
            Checks.is("rule 1: " + c.getSimpleName() + "." + name, face.contains(name), false);
        }
        for (Method m : c.getDeclaredMethods()) {
            Checks.is("rule 11: parameters of " + m, m.getParameterCount() <= 7, true);
        }
        int fields = 0;
        for (Field f : c.getDeclaredFields()) {
            boolean fixed = Modifier.isStatic(f.getModifiers());
            fields += fixed ? 0 : 1;
            Checks.is("rule 5: " + f, fixed && !Modifier.isFinal(f.getModifiers()), false);
        }
        Checks.is("rule 11: fields of " + c, fields <= 20, true);
    }
}
