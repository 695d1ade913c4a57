import java.util.Random;

/** Many runs of calls drawn by lot (always the same ones), each answer compared with that of PlainTown. */
public final class CompareTest {
    private static final int RUNS = 300;
    private static final int[] ODD = {-1, 0, 1, 7, 8, 19, 20, 24, 25, 50, 51, 60, 61, 100, 101, 200, 201, 9999,
        99999, 100000, -99999, -100000, 32768, -32769, Integer.MAX_VALUE, Integer.MIN_VALUE, GlanceGrows.NONE};

    private final Random lot;
    private final GlanceGrows x = new GlanceGrows();
    private final PlainTown y = new PlainTown();
    private final StringBuilder log = new StringBuilder();
    private boolean same = true;
    private int calls = 0;

    private CompareTest(int seed) {
        lot = new Random(seed);
    }

    public static void main(String[] args) {
        int runs = args.length > 0 ? Integer.parseInt(args[0]) : RUNS;
        int first = args.length > 1 ? Integer.parseInt(args[1]) : 0;
        long all = 0;
        for (int run = first; run < first + runs; run++) {
            CompareTest test = new CompareTest(run);
            boolean same = test.runs();
            all += test.calls;
            if (!same) {
                System.out.println("run " + run + ":\n" + test.log);
                Due.holds("run " + run + " answers as the plain town", false);
                break;
            }
        }
        System.out.println(all + " calls compared");
        Due.ends();
    }

    private boolean runs() {
        int style = lot.nextInt(4);
        if (style == 1) {
            longDays();
        }
        // One turn makes up to some 65 calls, and an object is good for 512.
        while (calls < 512 - 70 && same) {
            int pick = lot.nextInt(style == 2 ? 60 : 52);
            if (pick < 11) { people(pick); }
            else if (pick < 18) { looking(pick - 11); }
            else if (pick < 29) { future(pick - 18); }
            else if (pick < 34) { texts(pick - 29); }
            else if (pick < 44) { rows(pick - 34); }
            else if (pick < 52) { images(pick - 44); }
            else { texts(3); }
        }
        return same;
    }

    /** Up to the last days, for the bound of the day. */
    private void longDays() {
        said("deal", x.deal(3), y.deal(3), 3);
        for (int i = 0; i < 99; i++) { said("days", x.days(100), y.days(100), 100); }
        int n = 60 + lot.nextInt(40);
        said("days", x.days(n), y.days(n), n);
    }

    private int v(int least, int most) {
        if (lot.nextInt(14) == 0) {
            return ODD[lot.nextInt(ODD.length)];
        }
        if (lot.nextInt(40) == 0) {
            return lot.nextInt();
        }
        return least + lot.nextInt(most - least + 1) + (lot.nextInt(30) == 0 ? lot.nextInt(3) - 1 : 0);
    }

    private int who() { return v(0, Math.max(0, y.count(0) - 1)); }

    private int size() { return lot.nextInt(3) == 0 ? v(0, 12) : v(0, 200); }

    private void said(String call, int got, int want, int... args) {
        calls++;
        log.append(call).append(java.util.Arrays.toString(args)).append(" answered ").append(got);
        if (got != want) {
            same = false;
            log.append(", due is ").append(want);
        }
        log.append('\n');
    }

    private void people(int pick) {
        int a, b, c, d, e;
        switch (pick) {
            case 0: a = v(0, 5); b = v(0, 19); c = size(); d = v(0, 50); e = v(-1, 7);
                said("one", x.one(a, b, c, d, e), y.one(a, b, c, d, e), a, b, c, d, e); break;
            case 1: a = who(); b = v(0, 6); said("told", x.told(a, b), y.told(a, b), a, b); break;
            case 2: a = who(); b = v(0, 5); said("as", x.as(a, b), y.as(a, b), a, b); break;
            case 3: a = who(); b = v(0, 5); said("turns", x.turns(a, b), y.turns(a, b), a, b); break;
            case 4: a = who(); b = v(2, 4); c = b == 2 ? size() : b == 3 ? v(0, 50) : v(-1, 7);
                said("set", x.set(a, b, c), y.set(a, b, c), a, b, c); break;
            case 5: a = who(); b = v(0, 19); said("moves", x.moves(a, b), y.moves(a, b), a, b); break;
            case 6: a = v(0, 19); b = lot.nextInt(3) == 0 ? v(0, 1) : lot.nextInt(20) == 0 ? 1 : 0;
                said("screen", x.screen(a, b), y.screen(a, b), a, b); break;
            case 7: a = v(0, 19); said("at", x.at(a), y.at(a), a); break;
            case 8: a = v(0, 2); b = a == 0 ? v(0, 200) : v(0, 100); said("rule", x.rule(a, b), y.rule(a, b), a, b); break;
            case 9: a = lot.nextInt(3) == 0 ? v(1, 8) : 1; said("deal", x.deal(a), y.deal(a), a); break;
            default: a = lot.nextInt(); if (lot.nextInt(4) == 0) { said("seed", x.seed(a), y.seed(a), a); } break;
        }
    }

    private void looking(int pick) {
        int a = who();
        switch (pick) {
            case 0: said("looks", x.looks(a), y.looks(a), a); break;
            case 1: said("eyes", x.eyes(a), y.eyes(a), a); break;
            case 2: said("sees", x.sees(a), y.sees(a), a); break;
            case 3: a = lot.nextInt(3) == 0 ? v(1, 100) : v(1, 5); said("days", x.days(a), y.days(a), a); break;
            case 4: case 5: a = v(0, 4); said("town", x.town(a), y.town(a), a); break;
            default: pours(); break;
        }
    }

    private void future(int pick) {
        int a = who(), b, c;
        switch (pick) {
            case 0: b = v(0, 1); said("curtain", x.curtain(a, b), y.curtain(a, b), a, b); break;
            case 1: b = v(0, 1); said("seat", x.seat(a, b), y.seat(a, b), a, b); break;
            case 2: a = lot.nextInt(4) == 0 ? v(0, 100) : v(0, 8); b = v(0, 2 + y.count(0)); said("behind", x.behind(a, b), y.behind(a, b), a, b); break;
            case 3: if (lot.nextInt(3) == 0) { said("vanishes", x.vanishes(a), y.vanishes(a), a); } break;
            case 4: if (lot.nextInt(3) == 0) { said("bumps", x.bumps(a), y.bumps(a), a); } break;
            case 5: b = far(); c = v(0, 1); said("loud", x.loud(a, b, c), y.loud(a, b, c), a, b, c); break;
            case 6: b = far(); c = v(0, 1); said("loved", x.loved(a, b, c), y.loved(a, b, c), a, b, c); break;
            case 7: b = far(); c = v(0, 1); said("becomes", x.becomes(a, b, c), y.becomes(a, b, c), a, b, c); break;
            case 8: a = v(0, 3); b = v(0, 1); said("like", x.like(a, b), y.like(a, b), a, b); break;
            case 9: said("fee", x.fee(), y.fee()); break;
            default: said("fine", x.fine(a), y.fine(a), a); break;
        }
    }

    private int far() { return lot.nextInt(6) == 0 ? v(1, 60) : v(1, 6); }

    private void texts(int pick) {
        int a, b;
        switch (pick) {
            case 0: a = v(0, 13); b = v(0, 1); said("textTold", x.textTold(a, b), y.textTold(a, b), a, b); break;
            case 1: a = v(0, 2); said("why", x.why(a), y.why(a), a); break;
            case 2: a = v(0, 96); said("trim", x.trim(a), y.trim(a), a); break;
            case 3: if (lot.nextInt(6) == 0) { said("text", x.text(), y.text()); } else { tells(drawnText()); } break;
            default: a = lot.nextInt(); b = lot.nextInt(); said("feed", x.feed(a, b, a ^ b), y.feed(a, b, a ^ b), a, b, a ^ b); break;
        }
    }

    private String drawnText() {
        int key = lot.nextInt(3);
        String names = new String[] {"snf", "gv", "sp"}[key];
        StringBuilder s = new StringBuilder(new String[] {"pull", "fee", "fine"}[key]).append(' ');
        if (lot.nextInt(12) == 0) { s.setLength(s.length() - 1); }
        int deep = lot.nextInt(4);
        if (lot.nextInt(8) == 0) {
            deepens(s, names);
        } else {
            expression(s, names, deep);
        }
        for (int i = lot.nextInt(3); i > 1 && s.length() > 0; i--) {
            spoils(s);
        }
        if (s.length() > 96) { s.setLength(96); }
        return s.toString();
    }

    private void deepens(StringBuilder s, String names) {
        int open = 0;
        for (int i = 6 + lot.nextInt(14); i > 0; i--) {
            boolean not = lot.nextInt(2) == 0;
            s.append(not ? '!' : '(');
            open += not ? 0 : 1;
        }
        s.append(names.charAt(0));
        while (open-- > 0) { s.append(')'); }
    }

    private void expression(StringBuilder s, String names, int deep) {
        for (int parts = 1 + lot.nextInt(3); parts > 0; parts--) {
            blank(s);
            int pick = lot.nextInt(deep > 0 ? 10 : 7);
            if (pick < 3) { s.append(lot.nextInt(lot.nextInt(3) == 0 ? 10000 : 20)); }
            else if (pick < 7) { s.append(names.charAt(lot.nextInt(names.length()))); }
            else if (pick < 8) { s.append('!').append(names.charAt(0)); }
            else { s.append('('); expression(s, names, deep - 1); s.append(')'); }
            blank(s);
            if (parts > 1) { s.append("|&<=>+-*/+-*/".charAt(lot.nextInt(13))); }
        }
    }

    private void blank(StringBuilder s) {
        if (lot.nextInt(5) == 0) { s.append(' '); }
    }

    private void spoils(StringBuilder s) {
        int at = lot.nextInt(s.length());
        switch (lot.nextInt(3)) {
            case 0: s.deleteCharAt(at); break;
            case 1: s.insert(at, "sgvpnf0129 |&<=>+-*/!()\0\377A{`/:@".charAt(lot.nextInt(31))); break;
            default: s.setLength(at); break;
        }
    }

    private void tells(String text) {
        if (lot.nextInt(8) != 0) { said("trim", x.trim(0), y.trim(0), 0); }
        StringBuilder s = new StringBuilder(text);
        while (s.length() % 12 != 0) { s.append(' '); }
        for (int i = 0; i < s.length(); i += 12) {
            int a = Due.word(s, i), b = Due.word(s, i + 4), c = Due.word(s, i + 8);
            said("feed", x.feed(a, b, c), y.feed(a, b, c), a, b, c);
        }
        if (lot.nextInt(3) != 0) { said("trim", x.trim(text.length()), y.trim(text.length()), text.length()); }
        said("text '" + text + "'", x.text(), y.text());
        said("fee", x.fee(), y.fee());
        said("fine", x.fine(0), y.fine(0), 0);
        said("eyes", x.eyes(0), y.eyes(0), 0);
    }

    private void rows(int pick) {
        int a = lot.nextInt(10) == 0 ? v(0, 3) : lot.nextInt(2), b, c, d, e;
        switch (pick) {
            case 0: b = v(-1, 1); c = v(-1, 24); if (b >= 0 || lot.nextInt(3) == 0) { said("sheet", x.sheet(a, b, c), y.sheet(a, b, c), a, b, c); } break;
            case 1: case 2: b = v(0, 12); c = value(); said("mark", x.mark(a, b, c), y.mark(a, b, c), a, b, c); break;
            case 3: pours(); break;
            case 4: said("reads", x.reads(a), y.reads(a), a); break;
            case 5: b = v(0, 10); c = v(0, 3); d = v(0, 10); e = v(0, 10);
                said("copy", x.copy(a, b, c, d, e), y.copy(a, b, c, d, e), a, b, c, d, e); break;
            case 6: a = v(0, 4); b = v(0, 3); c = b == 1 ? who() : b == 2 ? v(0, 3) : lot.nextInt();
                said("lay", x.lay(a, b, c), y.lay(a, b, c), a, b, c); break;
            case 7: a = v(0, 4); b = v(0, 5); said("ask", x.ask(a, b), y.ask(a, b), a, b); break;
            case 8: a = v(0, 4); b = v(0, 20); said("item", x.item(a, b), y.item(a, b), a, b); break;
            default: a = v(0, 4); b = v(-3, 30); said("rest", x.rest(a, b), y.rest(a, b), a, b); break;
        }
    }

    /** Often the place of somebody, so that reads has something to go on with. */
    private int value() {
        int pick = lot.nextInt(4);
        return pick == 0 ? GlanceGrows.NONE : pick == 1 ? lot.nextInt(400000) - 200000 : v(-50, 250);
    }

    private void pours() {
        int a = v(0, 3);
        if (lot.nextInt(3) == 0) { said("pour", x.pour(a), y.pour(a), a); }
        if (lot.nextInt(3) == 0) {
            for (int i = 0; i < 4; i++) {
                int p = Math.max(-1, y.told(i, 1));
                said("mark", x.mark(a, i, p), y.mark(a, i, p), a, i, p);
                said("reads", x.reads(a), y.reads(a), a);
            }
        }
    }

    private void images(int pick) {
        int a = lot.nextInt();
        switch (pick) {
            case 0: case 1: said("tell", x.tell(a), y.tell(a), a); break;
            case 2: a = v(1, 30); said("check", x.check(a), y.check(a), a); break;
            case 3: if (lot.nextInt(4) == 0) { said("keep", x.keep(), y.keep()); } break;
            case 4: if (lot.nextInt(6) == 0) { said("back", x.back(), y.back()); } break;
            case 5: if (lot.nextInt(3) == 0) { tellsDays(); } break;
            default: a = v(0, 8); said("count", x.count(a), y.count(a), a); break;
        }
    }

    /** Days that are told as they will be, now and then with a slip. */
    private void tellsDays() {
        said("keep", x.keep(), y.keep());
        said("check", x.check(0), y.check(0), 0);
        int n = lot.nextInt(10) == 0 ? 30 : 1 + lot.nextInt(5);
        for (int k = 1; k <= n; k++) {
            int together = 0;
            for (int i = 0; i < y.count(0); i++) { together += y.behind(k, 3 + i); }
            int glances = y.behind(k, 0);
            if (lot.nextInt(12) == 0) { glances++; }
            if (lot.nextInt(12) == 0) { together--; }
            said("tell", x.tell(glances), y.tell(glances), glances);
            said("tell", x.tell(together), y.tell(together), together);
        }
        if (lot.nextInt(5) == 0) { said("tell", x.tell(1), y.tell(1), 1); }
        int by = lot.nextInt(5) == 0 ? n + 1 : n;
        said("check", x.check(by), y.check(by), by);
    }
}
