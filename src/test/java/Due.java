import java.nio.file.Files;
import java.nio.file.Path;
import java.util.ArrayList;
import java.util.List;

/** Counts and prints the answers that are not the ones that are due. */
final class Due {
    private static int asked = 0;
    private static int wrong = 0;
    private static String sentence = "";
    private static final List<String[]> SENTENCES = new ArrayList<>();

    private Due() { }

    static void is(String call, long got, long want) {
        asked++;
        if (got != want) {
            wrong++;
            System.out.println(sentence + call + " answered " + got + ", due is " + want);
        }
    }

    /** What is asked from here on tests this sentence, which stands in that part (0: ahead of the promises) of the document. */
    static void sentence(int promise, String words) {
        sentence = (promise == 0 ? "terms" : "promise " + promise) + ", '" + words + "': ";
        SENTENCES.add(new String[] {String.valueOf(promise), words});
    }

    /** Whether the sentences stand in the document as they are quoted, in the parts that are named. */
    static void sentencesStand(Path document) throws java.io.IOException {
        sentence = "";
        if (!Files.exists(document)) {
            System.out.println("without " + document + " the quotes are not looked up");
            return;
        }
        String all = Files.readString(document).replace("&amp;", "&").replace("&lt;", "<").replace("&gt;", ">");
        String[] parts = all.split("## Promise [0-9]+: ");
        for (String[] s : SENTENCES) {
            int part = Integer.parseInt(s[0]);
            holds("'" + s[1] + "' stands in part " + part, part < parts.length && parts[part].contains(s[1]));
        }
    }

    /** Whether there is a sentence of every one of the promises. */
    static void promisesHaveSentences(int first, int last) {
        for (int p = first; p <= last; p++) {
            String promise = String.valueOf(p);
            holds("promise " + p + " has a test", SENTENCES.stream().anyMatch(s -> s[0].equals(promise)));
        }
    }

    static void holds(String what, boolean so) {
        is(what, so ? 1 : 0, 1);
    }

    static void ends() {
        System.out.println(asked + " answers, " + wrong + " not as due");
        if (wrong != 0) {
            System.exit(1);
        }
    }

    /** Feeds a text, filled up with blanks to twelves, and trims the tape to its length. */
    static void feeds(GlanceGrows x, String text) {
        StringBuilder all = new StringBuilder(text);
        while (all.length() % 12 != 0) {
            all.append(' ');
        }
        for (int i = 0; i < all.length(); i += 12) {
            x.feed(word(all, i), word(all, i + 4), word(all, i + 8));
        }
        x.trim(text.length());
    }

    static int text(GlanceGrows x, String text) {
        feeds(x, text);
        return x.text();
    }

    static int word(CharSequence s, int i) {
        return s.charAt(i) << 24 | (s.charAt(i + 1) & 255) << 16 | (s.charAt(i + 2) & 255) << 8 | s.charAt(i + 3) & 255;
    }
}
