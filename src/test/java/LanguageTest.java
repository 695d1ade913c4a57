import java.lang.reflect.Field;
import java.lang.reflect.Method;
import java.lang.reflect.Modifier;
import java.nio.file.Files;
import java.nio.file.Path;
import java.util.Arrays;
import java.util.Set;
import java.util.TreeSet;
import java.util.regex.Matcher;
import java.util.regex.Pattern;

/** What of LANGUAGE.md can be looked up: the face, words that are ruled out, and that no call makes objects. */
public final class LanguageTest {
    private static final String FACE = "one5 told2 as2 turns2 set3 moves2 screen2 at1 rule2 deal1 seed1 looks1 eyes1 sees1 days1 town1 "
            + "curtain2 seat2 behind2 vanishes1 bumps1 loud3 loved3 becomes3 like2 fee0 fine1 feed3 trim1 text0 textTold2 why1 "
            + "sheet3 mark3 pour1 reads1 copy5 lay3 ask2 item2 rest2 tell1 check1 keep0 back0 count1";
    private static final String[] RULED_OUT = {"throw", "try", "catch", "synchronized", "assert", "import", "package",
        "Object", "Random", "Thread", "float", "double", "->", "::", "@", "equals", "hashCode", "toString"};

    public static void main(String[] args) throws Exception {
        face();
        nested();
        source();
        room();
        Due.ends();
    }

    private static void face() {
        Set<String> due = new TreeSet<>(Arrays.asList(FACE.split(" ")));
        Set<String> found = new TreeSet<>();
        for (Method m : GlanceGrows.class.getDeclaredMethods()) {
            if (Modifier.isPublic(m.getModifiers())) {
                boolean ints = m.getReturnType() == int.class && Arrays.stream(m.getParameterTypes()).allMatch(t -> t == int.class);
                found.add(m.getName() + (ints ? m.getParameterCount() : "?"));
                Due.holds(m.getName() + " is no static one", !Modifier.isStatic(m.getModifiers()));
            } else {
                Due.holds(m.getName() + " is private", Modifier.isPrivate(m.getModifiers()));
            }
        }
        Due.holds("the face is " + found, found.equals(due));
        Set<String> constants = new TreeSet<>();
        for (Field f : GlanceGrows.class.getDeclaredFields()) {
            if (Modifier.isPublic(f.getModifiers())) { constants.add(f.getName()); }
            Due.holds(f.getName() + " is public or private", (f.getModifiers() & (Modifier.PUBLIC | Modifier.PRIVATE)) != 0);
            Due.holds(f.getName() + " is final, if static", !Modifier.isStatic(f.getModifiers()) || Modifier.isFinal(f.getModifiers()));
        }
        Due.holds("constants are " + constants, constants.equals(Set.of("BAD", "NO", "FULL", "NONE", "NOTHING", "KIND", "INDEX", "SIZE")));
        Due.holds("the class is public and final", (GlanceGrows.class.getModifiers() & (Modifier.PUBLIC | Modifier.FINAL)) == (Modifier.PUBLIC | Modifier.FINAL));
    }

    private static void nested() {
        Set<String> names = new TreeSet<>();
        for (String f : FACE.split(" ")) { names.add(f.replaceAll("[0-9]", "")); }
        Class<?>[] inside = GlanceGrows.class.getDeclaredClasses();
        Due.holds("at most twelve classes", inside.length < 12);
        for (Class<?> c : inside) {
            Due.holds(c + " is static", Modifier.isStatic(c.getModifiers()));
            Due.holds(c + " has at most twenty fields", Arrays.stream(c.getDeclaredFields()).filter(f -> !Modifier.isStatic(f.getModifiers())).count() <= 20);
            for (Method m : c.getDeclaredMethods()) { checks(m, names); }
        }
        for (Method m : GlanceGrows.class.getDeclaredMethods()) {
            if (!Modifier.isPublic(m.getModifiers())) { checks(m, names); }
        }
    }

    private static void checks(Method m, Set<String> names) {
        Due.holds(m + " bears a name of its own", !names.contains(m.getName()));
        Due.holds(m + " takes at most seven", m.getParameterCount() <= 7);
    }

    private static void source() throws Exception {
        String all = Files.readString(Path.of("src/main/java/GlanceGrows.java"));
        Due.holds("plain signs alone", all.chars().allMatch(c -> c == '\n' || c >= 32 && c < 127));
        String code = all.replaceAll("(?s)/\\*.*?\\*/", "").replaceAll("//[^\n]*", "").replaceAll("\"[^\"\n]*\"", "\"\"");
        for (String word : RULED_OUT) {
            boolean letters = Character.isLetter(word.charAt(0));
            Matcher m = Pattern.compile(letters ? "\\b" + word + "\\b" : Pattern.quote(word)).matcher(code);
            Due.holds("without " + word, !m.find());
        }
        int line = 0;
        int start = 0;
        for (String row : code.split("\n")) {
            line++;
            if (row.matches(" {4}( {4})?[a-zA-Z].*\\) \\{")) { start = line; }
            if (row.matches(" {4}( {4})?\\}")) { Due.holds("short method at line " + start, line - start <= 60); }
        }
    }

    /** All calls of a run live in one room: the dearest of them make nothing. */
    private static void room() {
        com.sun.management.ThreadMXBean bean = (com.sun.management.ThreadMXBean) java.lang.management.ManagementFactory.getThreadMXBean();
        long id = Thread.currentThread().getId();
        GlanceGrows x = new GlanceGrows();
        x.deal(8);
        x.sheet(0, 1, 24);
        Due.text(x, "pull s*2+n-f");
        calls(x);
        long was = bean.getThreadAllocatedBytes(id);
        for (int i = 0; i < 20; i++) { calls(x); }
        long made = bean.getThreadAllocatedBytes(id) - was;
        Due.holds("calls make next to nothing (" + made + " bytes)", made < 20000);
    }

    private static void calls(GlanceGrows x) {
        x.keep();
        x.feed(0x70756c6c, 0x2028732b, 0x6e292a32);
        x.text();
        x.loud(0, 10, 0);
        x.loved(0, 10, 0);
        x.becomes(0, 10, 0);
        x.curtain(0, 0);
        x.seat(0, 0);
        x.vanishes(0);
        x.bumps(0);
        x.like(0, 0);
        x.lay(0, 2, 0);
        x.lay(1, 1, 0);
        x.tell(1);
        x.check(5);
        x.days(3);
        x.copy(0, 0, 0, 1, 5);
        x.back();
    }
}
