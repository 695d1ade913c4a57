import java.nio.file.Path;
import java.util.Arrays;

/**
 * A call that is refused, and one that only thinks or tells, changes nothing: each is made on a town that has something
 * of all there is, and everything that can be asked is asked there and in its twin without the call.
 */
public final class RefusedTest {
    private static final int BAD = GlanceGrows.BAD, NO = GlanceGrows.NO, FULL = GlanceGrows.FULL, NONE = GlanceGrows.NONE,
            NOTHING = GlanceGrows.NOTHING, KIND = GlanceGrows.KIND, INDEX = GlanceGrows.INDEX, SIZE = GlanceGrows.SIZE;
    private static final int MOST = Integer.MAX_VALUE;
    private static final int[] PLACES = {0, 2, 4, 7, 10, 13, 14, 18};

    private interface Call { int on(GlanceGrows x); }

    public static void main(String[] args) throws Exception {
        Due.sentence(0, "A call that is refused answers one of BAD, NO, FULL, or a FINDING, of several the one that stands first with it, and changes nothing "
                + "(but the tape and the numbers that wait, where told)");
        refusedPeople();
        refusedLooking();
        refusedTexts();
        refusedSheets();
        refusedCopies();
        refusedSlots();
        tapeAndNumbersGo();
        Due.sentence(0, "(All that follows is only thought, z as it is, without the bound of THE DAY: nothing changes.)");
        thought();
        Due.sentence(0, "NONE: there is none.");
        told();
        Due.sentencesStand(Path.of("../shared/DOC.md"));
        Due.ends();
    }

    /** Full of PEOPLE and TEXTS, as THE IMAGE is. */
    private static GlanceGrows kept() {
        GlanceGrows x = new GlanceGrows();
        for (int i = 0; i < 8; i++) { x.one(i % 6, PLACES[i], 30 + 10 * i, 5 * i, 7 - i); }
        x.set(7, 2, 0);
        x.screen(1, 1);
        x.screen(12, 1);
        x.rule(0, 60);
        x.rule(1, 40);
        x.rule(2, 60);
        x.days(2);
        Due.text(x, "pull s+n-f*2");
        Due.text(x, "fine s*100+p");
        for (int i = 2; i < 14; i++) { Due.text(x, "fee g*10+v+" + i); }
        x.keep();
        return x;
    }

    /** The numbers that wait: THE DAYS TOLD, so that check(30) shows whether one of them is otherwise. */
    private static int[] thirtyDays() {
        GlanceGrows x = kept();
        int[] numbers = new int[60];
        for (int i = 0; i < 60; i += 2) {
            x.days(1);
            numbers[i] = x.town(0);
            numbers[i + 1] = x.town(3);
        }
        return numbers;
    }

    /** Full of PEOPLE, TEXTS, bytes and numbers that wait; SHEET 2 is MISSING, SLOT 3 holds nothing. */
    private static GlanceGrows full() {
        GlanceGrows x = kept();
        x.days(2);
        x.sheet(0, 0, 3);
        x.mark(0, 0, 11);
        x.mark(0, 2, -13);
        x.sheet(1, 1, 2);
        x.mark(1, 0, NONE);
        x.mark(1, 1, 99999);
        x.sheet(3, 1, 0);
        x.lay(0, 1, 3);
        x.lay(1, 2, 1);
        x.lay(2, 3, -1234567);
        for (int v : DAYS_TOLD) { x.tell(v); }
        // A TEXT of 96 bytes but for its last one: where its FAULT is shows that THE TAPE is as it was.
        StringBuilder s = new StringBuilder("fee 1");
        while (s.length() < 95) { s.append(s.length() % 2 == 1 ? '+' : '1'); }
        s.append('?');
        Due.feeds(x, s.toString());
        return x;
    }

    private static final class Answers {
        private final int[] all = new int[400];
        private int many = 0;

        void add(int v) { all[many++] = v; }

        int[] rows() { return Arrays.copyOf(all, many); }
    }

    private static int[] everything(GlanceGrows x) {
        Answers a = new Answers();
        town(x, a);
        for (int key = 0; key < 3; key++) { a.add(x.why(key)); }
        for (int t = 0; t < 15; t++) { a.add(x.textTold(t, 0)); }
        for (int slot = 0; slot < 4; slot++) {
            a.add(x.ask(slot, 0));
            for (int place = 0; place < 3; place++) { a.add(x.item(slot, place)); }
            a.add(x.rest(slot, MOST));
        }
        a.add(x.lay(4, 0, 0));
        for (int sheet = 0; sheet < 4; sheet++) {
            a.add(x.lay(4, 2, sheet));
            for (int place = 0; place < 4; place++) { a.add(x.item(4, place)); }
            x.lay(4, 0, 0);
        }
        a.add(x.text());
        a.add(x.check(30));
        a.add(x.back());
        town(x, a);
        return a.rows();
    }

    private static void town(GlanceGrows x, Answers a) {
        for (int what = 0; what < 9; what++) { a.add(x.count(what)); }
        for (int what = 0; what < 5; what++) { a.add(x.town(what)); }
        for (int one = 0; one < 8; one++) {
            for (int what = 0; what < 5; what++) { a.add(x.told(one, what)); }
            a.add(x.fine(one));
        }
        for (int place = 0; place < 20; place++) { a.add(x.at(place)); }
        a.add(x.fee());
    }

    private static final int[] DAYS_TOLD = thirtyDays();
    private static final int[] AS_IT_IS = everything(full());

    private static void refused(String name, int due, Call call) {
        GlanceGrows x = full();
        Due.is(name, call.on(x), due);
        int[] then = everything(x);
        Due.is(name + " changes nothing", Arrays.mismatch(AS_IT_IS, then), -1);
    }

    private static void unchanged(String name, Call call) {
        GlanceGrows x = full();
        call.on(x);
        int[] then = everything(x);
        Due.is(name + " changes nothing", Arrays.mismatch(AS_IT_IS, then), -1);
    }

    private static void refusedPeople() {
        refused("one, no room", FULL, x -> x.one(0, 19, 1, 1, 1));
        refused("one, no PLACE of its own, no room", NO, x -> x.one(0, x.told(0, 1), 1, 1, 1));
        refused("one on a SCREEN, no room", NO, x -> x.one(0, 1, 1, 1, 1));
        refused("one, wrong KIND on a SCREEN", BAD, x -> x.one(6, 1, 1, 1, 1));
        refused("one, wrong PLACE", BAD, x -> x.one(0, 20, 1, 1, 1));
        refused("one, wrong SIZED", BAD, x -> x.one(0, 1, 201, 1, 1));
        refused("one, wrong NOISE", BAD, x -> x.one(0, 1, 1, 51, 1));
        refused("one, wrong LOVES", BAD, x -> x.one(0, 1, 1, 1, 8));
        refused("told(8, 0)", BAD, x -> x.told(8, 0));
        refused("told(0, 7)", BAD, x -> x.told(0, 7));
        refused("as(8, 1)", BAD, x -> x.as(8, 1));
        refused("as(0, 6)", BAD, x -> x.as(0, 6));
        refused("as(0, 1)", KIND, x -> x.as(0, 1));
        refused("turns(8, 0)", BAD, x -> x.turns(8, 0));
        refused("turns(0, 6)", BAD, x -> x.turns(0, 6));
        refused("turns(0, -1)", BAD, x -> x.turns(0, -1));
        refused("set(8, 2, 1)", BAD, x -> x.set(8, 2, 1));
        refused("set(0, 1, 19)", BAD, x -> x.set(0, 1, 19));
        refused("set(0, 5, 1)", BAD, x -> x.set(0, 5, 1));
        refused("set(0, 2, 201)", BAD, x -> x.set(0, 2, 201));
        refused("set(0, 3, 51)", BAD, x -> x.set(0, 3, 51));
        refused("set(0, 4, -2)", BAD, x -> x.set(0, 4, -2));
        refused("moves(8, 19)", BAD, x -> x.moves(8, 19));
        refused("moves(0, 20)", BAD, x -> x.moves(0, 20));
        refused("moves to its own", NO, x -> x.moves(0, x.told(0, 1)));
        refused("moves to another's", NO, x -> x.moves(0, x.told(7, 1)));
        refused("moves to a SCREEN", NO, x -> x.moves(0, 12));
        refused("screen(20, 1)", BAD, x -> x.screen(20, 1));
        refused("screen(-1, 0)", BAD, x -> x.screen(-1, 0));
        refused("screen(12, 2)", BAD, x -> x.screen(12, 2));
        refused("screen on somebody's", NO, x -> x.screen(x.told(5, 1), 1));
        refused("at(20)", BAD, x -> x.at(20));
        refused("rule(0, 201)", BAD, x -> x.rule(0, 201));
        refused("rule(1, 101)", BAD, x -> x.rule(1, 101));
        refused("rule(2, -1)", BAD, x -> x.rule(2, -1));
        refused("rule(3, 1)", BAD, x -> x.rule(3, 1));
        refused("deal(0)", BAD, x -> x.deal(0));
        refused("deal(9)", BAD, x -> x.deal(9));
        refused("deal(8) without room", 0, x -> x.deal(8));
    }

    private static void refusedLooking() {
        refused("looks(8)", BAD, x -> x.looks(8));
        refused("eyes(-1)", BAD, x -> x.eyes(-1));
        refused("sees(8)", BAD, x -> x.sees(8));
        refused("days(0)", BAD, x -> x.days(0));
        refused("days(101)", BAD, x -> x.days(101));
        refused("town(5)", BAD, x -> x.town(5));
        refused("curtain(8, 0)", BAD, x -> x.curtain(8, 0));
        refused("curtain(0, 2)", BAD, x -> x.curtain(0, 2));
        refused("seat(8, 0)", BAD, x -> x.seat(8, 0));
        refused("seat(0, -1)", BAD, x -> x.seat(0, -1));
        refused("behind(101, 0)", BAD, x -> x.behind(101, 0));
        refused("behind(5, 11)", BAD, x -> x.behind(5, 11));
        refused("vanishes(8)", BAD, x -> x.vanishes(8));
        refused("bumps(-1)", BAD, x -> x.bumps(-1));
        refused("loud(0, 61, 0)", BAD, x -> x.loud(0, 61, 0));
        refused("loved(0, 0, 0)", BAD, x -> x.loved(0, 0, 0));
        refused("becomes(0, 1, 2)", BAD, x -> x.becomes(0, 1, 2));
        refused("like(4, 0)", BAD, x -> x.like(4, 0));
        refused("like(0, 2)", BAD, x -> x.like(0, 2));
        refused("like(2, 2)", BAD, x -> x.like(2, 2));
        refused("like(2, 0)", NOTHING, x -> x.like(2, 0));
        refused("fine(8)", BAD, x -> x.fine(8));
        refused("tell, a 61st", FULL, x -> x.tell(5));
        refused("count(9)", BAD, x -> x.count(9));
    }

    private static void refusedTexts() {
        refused("feed, a ninth", FULL, x -> x.feed(1, 2, 3));
        refused("trim(97)", BAD, x -> x.trim(97));
        refused("trim(-1)", BAD, x -> x.trim(-1));
        refused("textTold(14, 0)", BAD, x -> x.textTold(14, 0));
        refused("textTold(0, 2)", BAD, x -> x.textTold(0, 2));
        refused("why(3)", BAD, x -> x.why(3));
        refused("why(-1)", BAD, x -> x.why(-1));
    }

    private static void refusedSheets() {
        refused("sheet(4, 0, 1)", BAD, x -> x.sheet(4, 0, 1));
        refused("sheet(0, 2, 1)", BAD, x -> x.sheet(0, 2, 1));
        refused("sheet(0, 2, -1)", BAD, x -> x.sheet(0, 2, -1));
        refused("sheet(0, 1, 25)", BAD, x -> x.sheet(0, 1, 25));
        refused("sheet(0, 1, -1)", SIZE, x -> x.sheet(0, 1, -1));
        refused("sheet(2, 0, -1)", SIZE, x -> x.sheet(2, 0, -1));
        refused("sheet(4, -1, 0)", BAD, x -> x.sheet(4, -1, 0));
        refused("mark(4, 0, 1)", BAD, x -> x.mark(4, 0, 1));
        refused("mark(2, 0, 1)", NOTHING, x -> x.mark(2, 0, 1));
        refused("mark(0, 3, 1)", INDEX, x -> x.mark(0, 3, 1));
        refused("mark(3, 0, 1)", INDEX, x -> x.mark(3, 0, 1));
        refused("mark(0, 0, NONE)", KIND, x -> x.mark(0, 0, NONE));
        refused("mark(1, 0, 100000)", BAD, x -> x.mark(1, 0, 100000));
        refused("mark(1, 2, 100000)", INDEX, x -> x.mark(1, 2, 100000));
        refused("pour(4)", BAD, x -> x.pour(4));
        refused("pour(2)", NOTHING, x -> x.pour(2));
        refused("pour of no places", 0, x -> x.pour(3));
        refused("reads(-1)", BAD, x -> x.reads(-1));
        refused("reads(2)", NOTHING, x -> x.reads(2));
    }

    private static void refusedCopies() {
        refused("copy to 4", BAD, x -> x.copy(2, 9, 4, 9, -1));
        refused("copy from -1", BAD, x -> x.copy(-1, 9, 2, 9, -1));
        refused("copy to MISSING", NOTHING, x -> x.copy(0, 0, 2, 0, 1));
        refused("copy from MISSING", NOTHING, x -> x.copy(2, 0, 0, 0, 1));
        refused("copy shorts to floats", KIND, x -> x.copy(0, 0, 1, 0, 1));
        refused("copy floats to shorts", KIND, x -> x.copy(1, 0, 0, 0, 9));
        refused("copy one too many", INDEX, x -> x.copy(0, 0, 0, 1, 3));
        refused("copy from one too far", INDEX, x -> x.copy(0, 1, 0, 0, 3));
        refused("copy -1", INDEX, x -> x.copy(0, 0, 0, 1, -1));
        refused("copy from -1", INDEX, x -> x.copy(0, -1, 0, 0, 1));
        refused("copy to -1", INDEX, x -> x.copy(0, 0, 0, -1, 1));
        refused("copy none", 0, x -> x.copy(0, 3, 0, 0, 0));
        refused("copy onto itself", 3, x -> x.copy(0, 0, 0, 0, 3));
    }

    private static void refusedSlots() {
        refused("lay(5, 0, 0)", BAD, x -> x.lay(5, 0, 0));
        refused("lay(0, 4, 0)", BAD, x -> x.lay(0, 4, 0));
        refused("lay(0, 1, 8)", BAD, x -> x.lay(0, 1, 8));
        refused("lay(0, 2, 4)", BAD, x -> x.lay(0, 2, 4));
        refused("lay(0, 2, 2)", NOTHING, x -> x.lay(0, 2, 2));
        refused("ask(5, 0)", BAD, x -> x.ask(5, 0));
        refused("ask(3, 6)", BAD, x -> x.ask(3, 6));
        refused("ask(3, 0)", NOTHING, x -> x.ask(3, 0));
        refused("ask(1, 0)", KIND, x -> x.ask(1, 0));
        refused("ask(0, 2)", KIND, x -> x.ask(0, 2));
        refused("item(5, 0)", BAD, x -> x.item(5, 0));
        refused("item(3, 9)", NOTHING, x -> x.item(3, 9));
        refused("item(0, 9)", KIND, x -> x.item(0, 9));
        refused("item(1, 2)", INDEX, x -> x.item(1, 2));
        refused("item(1, 0)", KIND, x -> x.item(1, 0));
        refused("rest(5, 0)", BAD, x -> x.rest(5, 0));
        refused("rest(3, 0)", NOTHING, x -> x.rest(3, 0));
        refused("rest(1, 0)", KIND, x -> x.rest(1, 0));
        refused("rest(2, 0)", NO, x -> x.rest(2, 0));
    }

    /** What goes even if a call is refused: THE TAPE by text(), the numbers that wait by check(); but nothing else. */
    private static void tapeAndNumbersGo() {
        refusedBut("text, a FAULT", -195, 6, x -> x.text());
        refusedBut("text, FULL", FULL, 6, x -> {
            x.trim(95);
            return x.text();
        });
        refusedBut("check(30)", 0, 7, x -> x.check(30));
        refusedBut("check(0)", BAD, 7, x -> x.check(0));
        refusedBut("check(31)", BAD, 7, x -> x.check(31));
        GlanceGrows x = new GlanceGrows();
        x.tell(1);
        Due.is("check without an IMAGE", x.check(1), NO);
        Due.is("no number waits", x.count(6), 0);
        Due.is("back without an IMAGE", x.back(), NO);
    }

    private static void refusedBut(String name, int due, int stays, Call call) {
        GlanceGrows x = full();
        GlanceGrows y = full();
        Due.is(name, call.on(x), due);
        for (int what = 0; what < 9; what++) {
            boolean goes = (what == 6 || what == 7) && what != stays;
            Due.is(name + ", then count(" + what + ")", x.count(what), goes ? 0 : y.count(what));
        }
        Answers a = new Answers();
        Answers b = new Answers();
        x.text();
        x.check(0);
        y.text();
        y.check(0);
        town(x, a);
        town(y, b);
        Due.is(name + " changes nothing else", Arrays.mismatch(a.rows(), b.rows()), -1);
        Due.is(name + ", why", x.why(1), 13);
    }

    private static void thought() {
        for (int one = 0; one < 8; one++) {
            int o = one;
            unchanged("curtain of " + o, x -> x.curtain(o, 0));
            unchanged("seat of " + o, x -> x.seat(o, 1));
            unchanged("vanishes of " + o, x -> x.vanishes(o));
            unchanged("bumps of " + o, x -> x.bumps(o));
            unchanged("loud of " + o, x -> x.loud(o, 60, 0));
            unchanged("loved of " + o, x -> x.loved(o, 60, 1));
            unchanged("becomes of " + o, x -> x.becomes(o, 60, 0));
        }
        for (int what = 0; what < 11; what++) {
            int w = what;
            unchanged("behind " + w, x -> x.behind(100, w));
        }
        unchanged("like", x -> x.like(0, 0));
        unchanged("like", x -> x.like(1, 1));
    }

    private static void told() {
        refused("a KING looks at nobody", NONE, x -> x.looks(3));
        refused("a PLACE that is nobody's", NONE, x -> x.at(1));
        unchanged("reads", x -> x.reads(0));
        unchanged("eyes", x -> x.eyes(0));
        unchanged("sees", x -> x.sees(0));
    }
}
