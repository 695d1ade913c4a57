import java.lang.reflect.Method;
import java.lang.reflect.Modifier;
import java.nio.file.Files;
import java.nio.file.Path;
import java.util.Arrays;
import java.util.regex.Matcher;
import java.util.regex.Pattern;

/** The lines of README.md answer as they say, one behind the other on one object, and it names every call and constant. */
public final class ReadmeTest {
    private static final Pattern CALL = Pattern.compile("x\\.(\\w+)\\((.*)\\);\\s*// (-?\\w+)(:.*)?");

    public static void main(String[] args) throws Exception {
        String page = Files.readString(Path.of("README.md"));
        lines(page);
        names(page);
        Due.ends();
    }

    private static void lines(String page) throws Exception {
        GlanceGrows x = null;
        int calls = 0;
        Matcher block = Pattern.compile("(?s)```java\n(.*?)```").matcher(page);
        while (block.find()) {
            for (String line : block.group(1).split("\n")) {
                if (line.equals("GlanceGrows x = new GlanceGrows();")) {
                    x = new GlanceGrows();
                    continue;
                }
                Matcher call = CALL.matcher(line);
                boolean runs = x != null && call.matches();
                Due.holds("'" + line + "' can be run", runs);
                if (runs) {
                    Due.is(line, answer(x, call.group(1), call.group(2)), number(call.group(3)));
                    calls++;
                }
            }
        }
        Due.holds("there are lines to run", calls > 0);
    }

    private static int answer(GlanceGrows x, String name, String values) throws Exception {
        String[] parts = values.isEmpty() ? new String[0] : values.split(", ");
        Object[] given = new Object[parts.length];
        Class<?>[] types = new Class<?>[parts.length];
        for (int i = 0; i < parts.length; i++) {
            given[i] = number(parts[i].replace("GlanceGrows.", ""));
            types[i] = int.class;
        }
        return (int) GlanceGrows.class.getMethod(name, types).invoke(x, given);
    }

    private static int number(String word) throws Exception {
        return word.matches("[A-Z]+") ? GlanceGrows.class.getField(word).getInt(null) : Integer.decode(word);
    }

    private static void names(String page) {
        for (Method m : GlanceGrows.class.getDeclaredMethods()) {
            if (Modifier.isPublic(m.getModifiers())) {
                Due.holds("README.md names " + m.getName(), page.contains("`" + m.getName() + "`"));
            }
        }
        Arrays.stream(GlanceGrows.class.getFields())
                .forEach(f -> Due.holds("README.md names " + f.getName(), page.contains("`" + f.getName() + "`")));
    }
}
