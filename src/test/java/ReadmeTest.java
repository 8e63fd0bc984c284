import java.io.IOException;
import java.lang.reflect.InvocationTargetException;
import java.lang.reflect.Method;
import java.lang.reflect.Modifier;
import java.nio.file.Files;
import java.nio.file.Path;
import java.util.regex.Matcher;
import java.util.regex.Pattern;

/** Runs the example of README.md and compares each answer with the one that stands behind the call. */
public final class ReadmeTest {
    private static final Pattern NEW = Pattern.compile("MaskLayers page = new MaskLayers\\((\\d+), (\\d+)\\);");
    private static final Pattern CALL = Pattern.compile("page\\.(\\w+)\\((.*?)\\); +// (?:(-?\\w+): )?.*");

    public static void main(String[] args) throws IOException {
        String readme = Files.readString(Path.of("README.md"));
        int start = readme.indexOf("```java\n") + 8;
        int calls = example(readme.substring(start, readme.indexOf("```", start)).split("\n"));
        Checks.is("calls in the example", calls > 10, true);
        for (Method m : MaskLayers.class.getDeclaredMethods()) {
            if (Modifier.isPublic(m.getModifiers())) {
                Checks.is("a row for " + m.getName(), readme.contains("| `" + m.getName() + "("), true);
            }
        }
        Checks.end();
    }

    private static int example(String[] lines) {
        MaskLayers page = null;
        int calls = 0;
        for (String line : lines) {
            Matcher made = NEW.matcher(line);
            Matcher call = CALL.matcher(line);
            if (made.matches()) {
                page = new MaskLayers(number(made.group(1)), number(made.group(2)));
            } else {
                Checks.is("a call: " + line, call.matches(), true);
                String want = call.group(3) == null ? "null" : call.group(3);
                Checks.is(line, number(answer(page, call.group(1), call.group(2))), number(want));
                calls++;
            }
        }
        return calls;
    }

    private static int number(String text) {
        return text.equals("null") || text.equals("false") ? 0 : text.equals("true") ? 1 : Integer.decode(text);
    }

    private static String answer(MaskLayers page, String name, String numbers) {
        String[] texts = numbers.isEmpty() ? new String[0] : numbers.split(", ");
        for (Method m : MaskLayers.class.getDeclaredMethods()) {
            if (m.getName().equals(name) && m.getParameterCount() == texts.length) {
                Object[] given = new Object[texts.length];
                for (int i = 0; i < given.length; i++) {
                    given[i] = m.getParameterTypes()[i] == boolean.class ? (Object) texts[i].equals("true") : number(texts[i]);
                }
                try {
                    return String.valueOf(m.invoke(page, given));
                } catch (IllegalAccessException | InvocationTargetException e) {
                    throw new IllegalStateException(name + " throws", e);
                }
            }
        }
        throw new IllegalStateException("there is no " + name);
    }
}
