/** Counts and prints the answers that are not the ones that are due. */
final class Due {
    private static int asked = 0;
    private static int wrong = 0;

    private Due() { }

    static void is(String call, long got, long want) {
        asked++;
        if (got != want) {
            wrong++;
            System.out.println(call + " answered " + got + ", due is " + want);
        }
    }

    static void holds(String what, boolean so) {
        is(what, so ? 1 : 0, 1);
    }

    static void ends() {
        System.out.println(asked + " answers, " + wrong + " not as due");
        if (wrong != 0) {
            System.exit(1);
        }
    }

    /** Feeds a text, filled up with blanks to twelves, and trims the tape to its length. */
    static void feeds(GlanceGrows x, String text) {
        StringBuilder all = new StringBuilder(text);
        while (all.length() % 12 != 0) {
            all.append(' ');
        }
        for (int i = 0; i < all.length(); i += 12) {
            x.feed(word(all, i), word(all, i + 4), word(all, i + 8));
        }
        x.trim(text.length());
    }

    static int text(GlanceGrows x, String text) {
        feeds(x, text);
        return x.text();
    }

    static int word(CharSequence s, int i) {
        return s.charAt(i) << 24 | (s.charAt(i + 1) & 255) << 16 | (s.charAt(i + 2) & 255) << 8 | s.charAt(i + 3) & 255;
    }
}
