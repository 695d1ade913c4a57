import java.util.ArrayDeque;
import java.util.ArrayList;
import java.util.Deque;
import java.util.List;

/** A text, told whether it goes on from token to token by a row of open signs, and worked out by splitting. */
final class PlainText {
    private static final List<String> KEYS = List.of("pull", "fee", "fine");
    private static final List<String> NAMES = List.of("snf", "gv", "sp");

    final int key;
    final int leaves;
    final int fault;
    private final List<String> tokens = new ArrayList<>();
    private final List<Integer> places = new ArrayList<>();
    private final List<Boolean> glued = new ArrayList<>();

    PlainText(byte[] tape) {
        cut(new String(tape, java.nio.charset.StandardCharsets.ISO_8859_1));
        key = tokens.isEmpty() ? -1 : KEYS.indexOf(tokens.get(0));
        fault = firstFault(tape.length);
        leaves = (int) tokens.stream().skip(1).filter(t -> t.matches("[0-9]+|[a-z]+")).count();
    }

    private void cut(String all) {
        java.util.regex.Matcher m = java.util.regex.Pattern.compile("[a-z]+|[0-9]+|[^ a-z0-9]", java.util.regex.Pattern.DOTALL).matcher(all);
        int end = -1;
        boolean wasWord = false;
        while (m.find()) {
            boolean word = m.group().matches("[a-z0-9]+");
            tokens.add(m.group());
            places.add(m.start());
            glued.add(word && wasWord && m.start() == end);
            end = m.end();
            wasWord = word;
        }
    }

    private int firstFault(int length) {
        if (key < 0) { return tokens.isEmpty() ? length : places.get(0); }
        Deque<Character> open = new ArrayDeque<>();
        Deque<Boolean> tested = new ArrayDeque<>();
        tested.push(false);
        boolean wants = true;
        for (int i = 1; i < tokens.size(); i++) {
            String t = tokens.get(i);
            char c = t.charAt(0);
            if (glued.get(i)) { return places.get(i); }
            if (wants) {
                if (t.matches("[0-9]{1,4}") || t.length() == 1 && NAMES.get(key).contains(t)) {
                    wants = false;
                    while (!open.isEmpty() && open.peek() == '!') { open.pop(); }
                } else if ((c == '!' || c == '(') && open.stream().filter(o -> o == c).count() < 8) {
                    open.push(c);
                    if (c == '(') { tested.push(false); }
                } else {
                    return places.get(i);
                }
            } else if (c == ')' && open.contains('(')) {
                open.pop();
                tested.pop();
                while (!open.isEmpty() && open.peek() == '!') { open.pop(); }
            } else if ("<=>".indexOf(c) >= 0 && !tested.peek()) {
                tested.pop();
                tested.push(true);
                wants = true;
            } else if ("|&".indexOf(c) >= 0) {
                tested.pop();
                tested.push(false);
                wants = true;
            } else if ("+-*/".indexOf(c) >= 0) {
                wants = true;
            } else {
                return places.get(i);
            }
        }
        return wants || open.contains('(') ? length : -1;
    }

    int value(int a, int b, int c) {
        return worked(tokens.subList(1, tokens.size()), new int[] {a, b, c});
    }

    private int worked(List<String> part, int[] names) {
        for (String signs : List.of("|", "&", "<=>", "+-", "*/")) {
            int depth = 0;
            for (int i = part.size() - 1; i > 0; i--) {
                String t = part.get(i);
                depth += t.equals(")") ? 1 : t.equals("(") ? -1 : 0;
                if (depth == 0 && signs.contains(t)) {
                    return joined(t, worked(part.subList(0, i), names), worked(part.subList(i + 1, part.size()), names));
                }
            }
        }
        String first = part.get(0);
        if (first.equals("!")) { return worked(part.subList(1, part.size()), names) == 0 ? 1 : 0; }
        if (first.equals("(")) { return worked(part.subList(1, part.size() - 1), names); }
        int name = NAMES.get(key).indexOf(first);
        return name >= 0 ? names[name] : Integer.parseInt(first);
    }

    private static int joined(String sign, int a, int b) {
        if (sign.equals("+")) { return a + b; }
        if (sign.equals("-")) { return a - b; }
        if (sign.equals("*")) { return a * b; }
        if (sign.equals("/")) { return b == 0 ? 0 : (int) ((long) a / b); }
        boolean so = sign.equals("<") ? a < b : sign.equals(">") ? a > b : sign.equals("=") ? a == b
                : sign.equals("&") ? a != 0 & b != 0 : a != 0 | b != 0;
        return so ? 1 : 0;
    }
}
