import java.nio.file.Path;

/** Each sentence of the promises that names an edge has a test of its own here, worked out by hand. */
public final class EdgesOfPromisesTest {
    private static final int BAD = GlanceGrows.BAD, NO = GlanceGrows.NO, FULL = GlanceGrows.FULL, NONE = GlanceGrows.NONE,
            NOTHING = GlanceGrows.NOTHING, KIND = GlanceGrows.KIND, INDEX = GlanceGrows.INDEX, SIZE = GlanceGrows.SIZE;
    private static final int LEAST = Integer.MIN_VALUE, MOST = Integer.MAX_VALUE;

    public static void main(String[] args) throws Exception {
        peopleAndPlaces();
        looking();
        whatWillBe();
        texts();
        sheets();
        slots();
        rowsAndImages();
        Due.sentencesStand(Path.of("../shared/DOC.md"));
        Due.promisesHaveSentences(1, 47);
        Due.ends();
    }

    private static GlanceGrows still(int[]... people) {
        GlanceGrows x = new GlanceGrows();
        x.rule(1, 0);
        x.rule(2, 0);
        for (int[] p : people) { x.one(p[0], p[1], p[2], p[3], p[4]); }
        return x;
    }

    private static int[] who(int... v) { return v; }

    /** Two KEEPERS that look at one another. */
    private static GlanceGrows pair() { return still(who(5, 0, 9, 3, -1), who(5, 1, 9, 4, -1)); }

    private static final int[] NOBODY = {-1, 2, 7, 8, LEAST, MOST};

    // ---- people, places

    private static void peopleAndPlaces() {
        newObject();
        one();
        told();
        as();
        turns();
        set();
        moves();
        screen();
        at();
        rule();
        deal();
        seed();
    }

    private static void newObject() {
        Due.sentence(1, "As told; no PEOPLE.");
        GlanceGrows x = new GlanceGrows();
        int[] due = {0, 0, 120, 20, 20, 0, 0, 0, 1};
        for (int i = 0; i < 9; i++) { Due.is("count(" + i + ")", x.count(i), due[i]); }
        for (int i = 0; i < 5; i++) { Due.is("town(" + i + ")", x.town(i), 0); }
        for (int i = 0; i < 8; i++) { Due.is("told(" + i + ", 0)", x.told(i, 0), BAD); }
        Due.is("days(1)", x.days(1), 0);
        Due.is("behind(100, 0)", x.behind(100, 0), 0);
        Due.is("behind(100, 3)", x.behind(100, 3), BAD);
        Due.is("fee()", x.fee(), 0);
        Due.is("fine(0)", x.fine(0), BAD);
        Due.is("text()", x.text(), -100);
        Due.is("back()", x.back(), NO);
        Due.is("keep()", x.keep(), 0);
        Due.is("trim(0)", x.trim(0), 0);
    }

    private static void one() {
        Due.sentence(2, "One more of the PEOPLE: the number.");
        GlanceGrows x = new GlanceGrows();
        for (int i = 0; i < 8; i++) { Due.is("number " + i, x.one(i % 6, 2 * i, i, i, i - 1), i); }
        for (int i = 0; i < 8; i++) {
            int[] due = {i % 6, 2 * i, i, i, i - 1};
            for (int what = 0; what < 5; what++) { Due.is("told(" + i + ", " + what + ")", x.told(i, what), due[what]); }
        }
        Due.sentence(2, "BAD; NO: the PLACE is somebody's, or has a SCREEN; FULL.");
        x = new GlanceGrows();
        x.screen(19, 1);
        Due.is("a SCREEN", x.one(0, 19, 0, 0, 0), NO);
        Due.is("a SCREEN, and wrong", x.one(0, 19, 0, 0, 8), BAD);
        for (int i = 0; i < 8; i++) { x.one(0, i, 0, 0, 0); }
        Due.is("somebody's, and no room", x.one(0, 0, 0, 0, 0), NO);
        Due.is("a SCREEN, and no room", x.one(0, 19, 0, 0, 0), NO);
        Due.is("no room", x.one(0, 18, 0, 0, 0), FULL);
        Due.is("no room, and wrong", x.one(6, 18, 0, 0, 0), BAD);
        int[][] bad = {{-1, 18, 0, 0, 0}, {0, -1, 0, 0, 0}, {0, 20, 0, 0, 0}, {0, 18, -1, 0, 0}, {0, 18, 201, 0, 0}, {0, 18, 0, -1, 0}, {0, 18, 0, 51, 0},
            {0, 18, 0, 0, -2}, {0, LEAST, 0, 0, 0}, {0, MOST, 0, 0, 0}};
        for (int[] b : bad) { Due.is("wrong", x.one(b[0], b[1], b[2], b[3], b[4]), BAD); }
    }

    private static void told() {
        Due.sentence(3, "5 what it GROWS by those who LOOK at it now, 6 WORTH. BAD.");
        GlanceGrows x = pair();
        Due.is("GROWS of a KEEPER", x.told(0, 5), 0);
        x.turns(0, 1);
        Due.is("GROWS of a seen ACTOR", x.told(0, 5), 2);
        x.set(0, 2, 0);
        Due.is("GROWS of a 0 SIZED ACTOR: not held", x.told(0, 5), -4);
        Due.is("WORTH of it", x.told(0, 6), 5);
        x.set(0, 2, 200);
        Due.is("GROWS at 200: not held", x.told(0, 5), 2);
        for (int one : NOBODY) { Due.is("told(" + one + ", 0)", x.told(one, 0), BAD); }
        for (int what : new int[] {-1, 7, LEAST, MOST}) { Due.is("told(0, " + what + ")", x.told(0, what), BAD); }
    }

    private static void as() {
        Due.sentence(4, "BAD: one, kind; KIND: it is not of that KIND, nor of one under it.");
        GlanceGrows x = pair();
        for (int one : NOBODY) { Due.is("as(" + one + ", 0)", x.as(one, 0), BAD); }
        for (int kind : new int[] {-1, 6, LEAST, MOST}) { Due.is("as(0, " + kind + ")", x.as(0, kind), BAD); }
        Due.is("a KEEPER as KEEPER", x.as(0, 5), 9);
        Due.is("a KEEPER as ONE", x.as(0, 0), 9);
        for (int kind = 1; kind < 5; kind++) { Due.is("a KEEPER as " + kind, x.as(0, kind), KIND); }
        x.turns(0, 0);
        for (int kind = 1; kind < 6; kind++) { Due.is("ONE as " + kind, x.as(0, kind), KIND); }
        x.turns(0, 1);
        Due.is("an ACTOR as KING", x.as(0, 3), KIND);
        x.turns(0, 3);
        Due.is("a KING as ACTOR", x.as(0, 1), 9);
        Due.is("a KING as MOUSE", x.as(0, 4), KIND);
        x.set(0, 2, 0);
        Due.is("0 SIZED", x.as(0, 1), 0);
    }

    private static void turns() {
        Due.sentence(5, "One is of another KIND from now on: what it was. BAD.");
        GlanceGrows x = pair();
        int was = 5;
        for (int kind = 0; kind < 6; kind++) {
            Due.is("turns(0, " + kind + ")", x.turns(0, kind), was);
            Due.is("its KIND", x.told(0, 0), kind);
            was = kind;
        }
        for (int one : NOBODY) { Due.is("turns(" + one + ", 0)", x.turns(one, 0), BAD); }
        for (int kind : new int[] {-1, 6, LEAST, MOST}) { Due.is("turns(0, " + kind + ")", x.turns(0, kind), BAD); }
        Due.is("its KIND stays", x.told(0, 0), 5);
        Due.is("the other's, too", x.told(1, 0), 5);
    }

    private static void set() {
        Due.sentence(6, "SIZED, NOISE, LOVES (what 2 .. 4) of one becomes v: what it was. BAD.");
        int[] least = {0, 0, -1}, most = {200, 50, 7}, was = {9, 3, -1};
        GlanceGrows x = pair();
        for (int k = 0; k < 3; k++) {
            Due.is("the most", x.set(0, 2 + k, most[k]), was[k]);
            Due.is("the least", x.set(0, 2 + k, least[k]), most[k]);
            for (int v : new int[] {least[k] - 1, most[k] + 1, LEAST, MOST}) { Due.is("set " + v, x.set(0, 2 + k, v), BAD); }
            Due.is("it is the least", x.told(0, 2 + k), least[k]);
            for (int one : NOBODY) { Due.is("set of " + one, x.set(one, 2 + k, 1), BAD); }
        }
        for (int what : new int[] {-1, 0, 1, 5, 6, LEAST, MOST}) { Due.is("set " + what, x.set(0, what, 1), BAD); }
        Due.is("VANISHED, BUMPS stay", x.town(1) + x.town(2), 0);
        for (int k = 0; k < 5; k++) { Due.is("the other one stays", x.told(1, k), new int[] {5, 1, 9, 4, -1}[k]); }
    }

    private static void moves() {
        Due.sentence(7, "BAD; NO: that is somebody's (its own, too), or has a SCREEN.");
        GlanceGrows x = pair();
        x.screen(19, 1);
        Due.is("its own", x.moves(0, 0), NO);
        Due.is("another's", x.moves(0, 1), NO);
        Due.is("a SCREEN", x.moves(0, 19), NO);
        for (int place : new int[] {-1, 20, LEAST, MOST}) { Due.is("moves(0, " + place + ")", x.moves(0, place), BAD); }
        for (int one : NOBODY) {
            Due.is("moves(" + one + ", 5)", x.moves(one, 5), BAD);
            Due.is("moves(" + one + ", 0)", x.moves(one, 0), BAD);
        }
        Due.is("it stays", x.told(0, 1), 0);
        Due.is("to 18", x.moves(0, 18), 0);
        Due.is("back to 0, which is free", x.moves(0, 0), 18);
        Due.is("18 is nobody's", x.at(18), NONE);
        x.screen(19, 0);
        Due.is("to 19, without its SCREEN", x.moves(0, 19), 0);
        Due.is("1 to 0, which is free", x.moves(1, 0), 1);
    }

    private static void screen() {
        Due.sentence(8, "whether it had one (1, 0). BAD; NO: it is to have one, and is somebody's.");
        GlanceGrows x = pair();
        Due.is("is to have one", x.screen(0, 1), NO);
        Due.is("is to have none", x.screen(0, 0), 0);
        for (int place : new int[] {-1, 20, 31, 32, LEAST, MOST}) {
            Due.is("screen(" + place + ", 0)", x.screen(place, 0), BAD);
            Due.is("screen(" + place + ", 1)", x.screen(place, 1), BAD);
        }
        for (int is : new int[] {-1, 2, LEAST, MOST}) {
            Due.is("screen(0, " + is + ")", x.screen(0, is), BAD);
            Due.is("screen(5, " + is + ")", x.screen(5, is), BAD);
        }
        Due.is("none is there", x.town(4), 0);
        for (int place : new int[] {2, 19}) {
            Due.is("it had none", x.screen(place, 1), 0);
            Due.is("it had one", x.screen(place, 1), 1);
            Due.is("it has one", x.town(4), 1 << place);
            Due.is("it had one still", x.screen(place, 0), 1);
            Due.is("it had none then", x.screen(place, 0), 0);
        }
    }

    private static void at() {
        Due.sentence(9, "Whose a PLACE is. BAD; NONE: nobody's.");
        GlanceGrows x = still(who(5, 0, 9, 0, -1), who(5, 19, 9, 0, -1));
        x.screen(7, 1);
        Due.is("at(0)", x.at(0), 0);
        Due.is("at(19)", x.at(19), 1);
        Due.is("at(1)", x.at(1), NONE);
        Due.is("a SCREEN is nobody's", x.at(7), NONE);
        for (int place : new int[] {-1, 20, LEAST, MOST}) { Due.is("at(" + place + ")", x.at(place), BAD); }
    }

    private static void rule() {
        Due.sentence(10, "CEILING, MOVES, NOISES (what 0 .. 2) becomes v: what it was. BAD.");
        GlanceGrows x = new GlanceGrows();
        int[] was = {120, 20, 20}, most = {200, 100, 100};
        for (int what = 0; what < 3; what++) {
            Due.is("the most", x.rule(what, most[what]), was[what]);
            Due.is("above", x.rule(what, most[what] + 1), BAD);
            Due.is("below", x.rule(what, -1), BAD);
            Due.is("the least", x.rule(what, 0), most[what]);
            Due.is("it is", x.rule(what, was[what]), 0);
        }
        for (int what : new int[] {-1, 3, LEAST, MOST}) { Due.is("rule(" + what + ", 5)", x.rule(what, 5), BAD); }
        Due.is("101 of CEILING is fine", x.rule(0, 101), 120);
    }

    private static int nth(int seed, int n) {
        int z = seed;
        for (int i = 0; i < n; i++) { z = z * 1103515245 + 12345; }
        return z;
    }

    private static void deal() {
        Due.sentence(11, "PEOPLE are drawn, n (1 .. 8) of them, as many as there is room for (no draws for others): how many came. BAD.");
        for (int there = 0; there <= 8; there++) {
            for (int n = 1; n <= 8; n++) {
                GlanceGrows x = new GlanceGrows();
                for (int i = 0; i < there; i++) { x.one(5, i, 9, 0, -1); }
                int come = Math.min(n, 8 - there);
                Due.is(there + " there, deal(" + n + ")", x.deal(n), come);
                Due.is("draws", x.count(8), nth(1, 5 * come));
                Due.is("how many", x.count(0), there + come);
            }
        }
        GlanceGrows x = new GlanceGrows();
        for (int n : new int[] {0, -1, 9, LEAST, MOST}) { Due.is("deal(" + n + ")", x.deal(n), BAD); }
        Due.is("no draws", x.count(8), 1);
        x.deal(8);
        Due.is("wrong in a full town, too", x.deal(9), BAD);
    }

    private static void seed() {
        Due.sentence(12, "z becomes v: what it was.");
        GlanceGrows x = new GlanceGrows();
        Due.is("at first", x.seed(LEAST), 1);
        Due.is("the least", x.seed(MOST), LEAST);
        Due.is("the most", x.seed(0), MOST);
        Due.is("0", x.seed(BAD), 0);
        Due.is("any number", x.count(8), BAD);
    }

    // ---- looking, days

    private static void looking() {
        looks();
        eyes();
        sees();
        days();
        town();
    }

    private static void looks() {
        Due.sentence(13, "At whom one LOOKS. BAD; NONE: at nobody.");
        GlanceGrows x = pair();
        for (int one : NOBODY) { Due.is("looks(" + one + ")", x.looks(one), BAD); }
        Due.is("0 at 1", x.looks(0), 1);
        Due.is("1 at 0", x.looks(1), 0);
        x.turns(0, 3);
        Due.is("a KING", x.looks(0), NONE);
        x.set(0, 2, 0);
        Due.is("only a 0 SIZED one", x.looks(1), NONE);
    }

    private static void eyes() {
        Due.sentence(14, "Those who LOOK at one, as a set. BAD.");
        GlanceGrows x = still(who(5, 11, 50, 0, -1));
        for (int p : new int[] {1, 6, 10, 12, 13, 14, 16}) { x.one(5, p, 50, p == 11 ? 9 : 0, 0); }
        Due.is("all seven", x.eyes(0), 0b11111110);
        Due.is("the one whom 0 looks at", x.eyes(2), 1);
        Due.is("nobody", x.eyes(1), 0);
        GlanceGrows y = pair();
        for (int one : NOBODY) { Due.is("eyes(" + one + ")", y.eyes(one), BAD); }
        y.set(0, 2, 0);
        Due.is("at a 0 SIZED one nobody", y.eyes(0), 0);
        Due.is("a 0 SIZED one looks", y.eyes(1), 1);
    }

    private static void sees() {
        Due.sentence(15, "Those whom one SEES (0 SIZED ones, too), as a set. BAD.");
        GlanceGrows x = still(who(3, 11, 50, 0, -1));
        for (int p : new int[] {1, 6, 10, 12, 13, 14, 16}) { x.one(5, p, 0, 0, 0); }
        Due.is("all seven, by a KING, too", x.sees(0), 0b11111110);
        x.set(0, 2, 0);
        Due.is("by a 0 SIZED one", x.sees(0), 0b11111110);
        Due.is("1 at place 1: 6, over it 11, 16", x.sees(1), 0b10000101);
        x.set(0, 2, 1);
        Due.is("then 16 is hidden", x.sees(1), 0b00000101);
        GlanceGrows y = pair();
        for (int one : NOBODY) { Due.is("sees(" + one + ")", y.sees(one), BAD); }
    }

    private static void days() {
        Due.sentence(16, "n (1 .. 100) DAYS (no more than up to 9999): by how much GLANCES are more. BAD.");
        GlanceGrows x = pair();
        for (int n : new int[] {0, -1, 101, LEAST, MOST}) { Due.is("days(" + n + ")", x.days(n), BAD); }
        Due.is("THE DAY", x.count(1), 0);
        Due.is("days(1)", x.days(1), 2);
        Due.is("days(100)", x.days(100), 200);
        Due.is("THE DAY then", x.count(1), 101);
        for (int i = 0; i < 98; i++) { x.days(100); }
        Due.is("THE DAY", x.count(1), 9901);
        x.days(97);
        Due.is("THE DAY is 9998", x.count(1), 9998);
        Due.is("one of 100", x.days(100), 2);
        Due.is("none of 1", x.days(1), 0);
        Due.is("wrong then, too", x.days(101), BAD);
        Due.is("9999", x.count(1), 9999);
        Due.is("GLANCES", x.town(0), 19998);
    }

    private static void town() {
        Due.sentence(17, "3 SIZED of all, together, 4 PLACES with a SCREEN, as a set. BAD.");
        GlanceGrows x = new GlanceGrows();
        Due.is("SIZED of nobody", x.town(3), 0);
        for (int i = 0; i < 8; i++) { x.one(5, i, 200, 0, -1); }
        Due.is("eight of 200", x.town(3), 1600);
        x.screen(19, 1);
        x.screen(8, 1);
        Due.is("8 and 19", x.town(4), 1 << 8 | 1 << 19);
        for (int what : new int[] {-1, 5, LEAST, MOST}) { Due.is("town(" + what + ")", x.town(what), BAD); }
    }

    // ---- what will be

    private static void whatWillBe() {
        curtain();
        seat();
        behind();
        vanishes();
        bumps();
        loud();
        loved();
        becomes();
        like();
        fee();
        fine();
    }

    private static void curtain() {
        Due.sentence(18, "what 0 the PLACE, 1 how many LOOK at it. BAD; NONE: there is no such PLACE.");
        GlanceGrows x = pair();
        for (int one : NOBODY) { Due.is("curtain(" + one + ", 0)", x.curtain(one, 0), BAD); }
        for (int what : new int[] {-1, 2, LEAST, MOST}) { Due.is("curtain(0, " + what + ")", x.curtain(0, what), BAD); }
        Due.is("the least free PLACE", x.curtain(0, 0), 2);
        Due.is("one looks", x.curtain(0, 1), 1);
        for (int p = 2; p < 20; p++) { x.screen(p, 1); }
        Due.is("no such PLACE", x.curtain(0, 0), NONE);
        Due.is("nor how many", x.curtain(0, 1), NONE);
        Due.is("wrong all the same", x.curtain(2, 0), BAD);
        x.screen(19, 0);
        Due.is("the last PLACE", x.curtain(0, 0), 19);
    }

    private static void seat() {
        Due.sentence(19, "SEAT of one: what 0 the PLACE, 1 how many LOOK at it. BAD.");
        GlanceGrows x = pair();
        for (int one : NOBODY) { Due.is("seat(" + one + ", 0)", x.seat(one, 0), BAD); }
        for (int what : new int[] {-1, 2, LEAST, MOST}) { Due.is("seat(0, " + what + ")", x.seat(0, what), BAD); }
        for (int p = 2; p < 20; p++) { x.screen(p, 1); }
        Due.is("its own is the only one", x.seat(1, 0), 1);
        Due.is("one looks", x.seat(1, 1), 1);
        GlanceGrows y = still(who(5, 19, 9, 0, -1));
        for (int p : new int[] {1, 5, 7, 11, 17, 9}) { y.one(5, p, 9, 0, 0); }
        Due.is("6: by 1, 5, 7, 11, and 9, over 7", y.seat(0, 0), 6);
        Due.is("five look", y.seat(0, 1), 5);
    }

    private static void behind() {
        Due.sentence(20, "BEHIND n (0 .. 100) DAYS: what 0 GLANCES, 1 VANISHED, 2 BUMPS; 3 and k: SIZED of number k. BAD.");
        GlanceGrows x = pair();
        x.days(2);
        Due.is("behind(0, 0)", x.behind(0, 0), 4);
        Due.is("behind(100, 0)", x.behind(100, 0), 204);
        Due.is("behind(0, 3)", x.behind(0, 3), 9);
        Due.is("behind(0, 4)", x.behind(0, 4), 9);
        for (int n : new int[] {-1, 101, LEAST, MOST}) { Due.is("behind(" + n + ", 0)", x.behind(n, 0), BAD); }
        for (int what : new int[] {-1, 5, 10, 11, LEAST, MOST}) { Due.is("behind(1, " + what + ")", x.behind(1, what), BAD); }
        GlanceGrows y = still(who(0, 19, 4, 0, -1));
        for (int p : new int[] {0, 1, 2, 3, 5, 6, 7}) { y.one(5, p, 100 + p, 0, -1); }
        y.rule(0, 105);
        Due.is("VANISHED behind a DAY", y.behind(1, 1), 0);
        Due.is("VANISHED behind two", y.behind(2, 1), 1);
        Due.is("BUMPS behind no DAYS", y.behind(0, 2), 0);
        Due.is("BUMPS behind a DAY", y.behind(1, 2), 2);
        Due.is("BUMPS behind 100", y.behind(100, 2), 200);
        Due.is("number 0", y.behind(1, 3), 2);
        Due.is("number 7", y.behind(100, 10), 107);
        Due.is("number 8", y.behind(0, 11), BAD);
    }

    private static void vanishes() {
        Due.sentence(21, "GONE of one. BAD; NONE: not by then.");
        GlanceGrows x = pair();
        for (int one : NOBODY) { Due.is("vanishes(" + one + ")", x.vanishes(one), BAD); }
        Due.is("never", x.vanishes(0), NONE);
        x.set(1, 2, 0);
        Due.is("at once", x.vanishes(1), 0);
        x.turns(0, 2);
        x.set(0, 2, 200);
        x.moves(1, 19);
        Due.is("behind 200", x.vanishes(0), 200);
    }

    private static void bumps() {
        Due.sentence(22, "BUMPED of one. BAD; NONE: not by then.");
        GlanceGrows x = pair();
        for (int one : NOBODY) { Due.is("bumps(" + one + ")", x.bumps(one), BAD); }
        Due.is("never", x.bumps(0), NONE);
        x.rule(0, 9);
        Due.is("at CEILING never", x.bumps(0), NONE);
        x.rule(0, 8);
        Due.is("at once", x.bumps(0), 0);
        x.rule(0, 200);
        x.set(0, 2, 200);
        Due.is("200 is not above 200", x.bumps(0), NONE);
    }

    private static void wrongOnesAndDays(String name, Triple call) {
        for (int one : NOBODY) { Due.is(name + "(" + one + ", 1, 0)", call.of(one, 1, 0), BAD); }
        for (int n : new int[] {-1, 0, 61, LEAST, MOST}) { Due.is(name + "(0, " + n + ", 0)", call.of(0, n, 0), BAD); }
        for (int what : new int[] {-1, 2, LEAST, MOST}) { Due.is(name + "(0, 1, " + what + ")", call.of(0, 1, what), BAD); }
        Due.is(name + "(0, 60, 1)", call.of(0, 60, 1), 9);
        Due.is(name + "(0, 1, 1)", call.of(0, 1, 1), 9);
    }

    private interface Triple { int of(int a, int b, int c); }

    private static void loud() {
        Due.sentence(23, "LOUD of one, for n (1 .. 60): what 0 NOISE, 1 SIZED. BAD.");
        wrongOnesAndDays("loud", pair()::loud);
        GlanceGrows x = still(who(0, 5, 20, 33, -1), who(5, 0, 1, 0, -1), who(5, 1, 70, 0, -1));
        Due.is("50, the most", x.loud(0, 1, 0), 50);
        Due.is("it grows", x.loud(0, 1, 1), 21);
        Due.is("behind 60", x.loud(0, 60, 1), 80);
        x.set(2, 2, 71);
        Due.is("no NOISE does: 0", x.loud(0, 1, 0), 0);
        Due.is("NOISE stays", x.told(0, 3), 33);
    }

    private static void loved() {
        Due.sentence(24, "LOVED of one, for n (1 .. 60): what 0 the other one, 1 SIZED. BAD; NONE: there is no other one.");
        wrongOnesAndDays("loved", pair()::loved);
        GlanceGrows x = still(who(0, 0, 20, 0, -1));
        Due.is("no other one", x.loved(0, 60, 0), NONE);
        Due.is("no other one: SIZED", x.loved(0, 60, 1), NONE);
        Due.is("wrong ahead of it", x.loved(0, 61, 0), BAD);
        Due.is("wrong ahead of it", x.loved(0, 1, 2), BAD);
        Due.is("wrong ahead of it", x.loved(1, 1, 0), BAD);
        x.one(0, 19, 9, 0, -1);
        Due.is("the other one", x.loved(0, 1, 0), 1);
        Due.is("of 1", x.loved(1, 1, 0), 0);
    }

    private static void becomes() {
        Due.sentence(25, "BECOMES of one, for n (1 .. 60): what 0 the KIND, 1 SIZED. BAD.");
        GlanceGrows x = pair();
        x.moves(1, 6);
        wrongOnesAndDays("becomes", x::becomes);
        Due.is("KEEPER, the last KIND", x.becomes(0, 1, 0), 5);
        x.moves(1, 1);
        Due.is("ACTOR, the least of two", x.becomes(0, 1, 0), 1);
        Due.is("11", x.becomes(0, 1, 1), 11);
        Due.is("KIND stays", x.told(0, 0), 5);
    }

    private static void like() {
        Due.sentence(26, "LIKE by a SHEET: what 0 the one, 1 the differences, together. BAD; NOTHING; NONE: there are no PEOPLE.");
        GlanceGrows x = still();
        for (int s : new int[] {-1, 4, LEAST, MOST}) { Due.is("like(" + s + ", 0)", x.like(s, 0), BAD); }
        for (int what : new int[] {-1, 2, LEAST, MOST}) { Due.is("like(0, " + what + ")", x.like(0, what), BAD); }
        Due.is("MISSING, no PEOPLE", x.like(0, 0), NOTHING);
        x.sheet(0, 0, 0);
        Due.is("no PEOPLE", x.like(0, 0), NONE);
        Due.is("no PEOPLE", x.like(0, 1), NONE);
        Due.is("wrong ahead of it", x.like(0, 2), BAD);
        x.one(5, 0, 9, 0, -1);
        Due.is("an empty SHEET", x.like(0, 0), 0);
        Due.is("MISSING", x.like(3, 0), NOTHING);
        for (int i = 1; i < 8; i++) { x.one(5, i, 9 + i, 0, -1); }
        x.sheet(3, 0, 1);
        x.mark(3, 0, 32767);
        Due.is("the last one", x.like(3, 0), 7);
        Due.is("the differences", x.like(3, 1), 32751);
        x.mark(3, 0, 32768);
        Due.is("-32768 by wrapping", x.like(3, 1), 32777);
        Due.is("the first one", x.like(3, 0), 0);
    }

    private static void fee() {
        Due.sentence(27, "What fee gives.");
        GlanceGrows x = pair();
        Due.is("without a TEXT", x.fee(), 0);
        x.days(100);
        Due.is("GLANCES", x.fee(), 200);
        Due.text(x, "fee 0-g*g*g*g*g");
        Due.is("wrapped", x.fee(), -200 * 200 * 200 * 200 * 200);
        Due.text(x, "fee g/v");
        Due.is("by 0", x.fee(), 0);
        Due.is("any number, as BAD", Due.text(x, "fee 0-9999*9999*10-9999*19-999*10-11"), 2);
        Due.is("it is no refusal", x.fee(), -9999 * 9999 * 10 - 9999 * 19 - 999 * 10 - 11);
    }

    private static void fine() {
        Due.sentence(28, "What fine gives for one. BAD.");
        GlanceGrows x = pair();
        for (int one : NOBODY) { Due.is("fine(" + one + ")", x.fine(one), BAD); }
        Due.is("NOISE of 0", x.fine(0), 3);
        Due.is("NOISE of 1", x.fine(1), 4);
        Due.text(x, "fine s/p");
        for (int one : NOBODY) { Due.is("fine(" + one + ")", x.fine(one), BAD); }
        Due.is("by PLACE 0", x.fine(0), 0);
        Due.is("by PLACE 1", x.fine(1), 9);
        x.moves(1, 19);
        x.set(1, 2, 200);
        Due.is("by PLACE 19", x.fine(1), 10);
    }

    // ---- texts

    private static void texts() {
        feed();
        trim();
        text();
        textTold();
        why();
    }

    private static void feed() {
        Due.sentence(29, "Twelve bytes come to THE TAPE, the highest of each number first: how many it has.");
        GlanceGrows x = new GlanceGrows();
        Due.is("'fee 12+34  '", x.feed(0x66656520, 0x31322B33, 0x34202020), 12);
        x.text();
        Due.is("46", x.fee(), 46);
        Due.is("bytes from 128 on", x.feed(0x66656520, 0xB1202020, 0x20202020), 12);
        Due.is("are no digits", x.text(), -104);
        Due.sentence(29, "FULL: it would have more than 96.");
        for (int kept = 0; kept <= 96; kept++) {
            GlanceGrows y = new GlanceGrows();
            for (int i = 0; i < 8; i++) { y.feed(0, 0, 0); }
            y.trim(kept);
            Due.is("with " + kept, y.feed(MOST, LEAST, -1), kept <= 84 ? kept + 12 : FULL);
            Due.is("then", y.count(7), kept <= 84 ? kept + 12 : kept);
        }
    }

    private static void trim() {
        Due.sentence(30, "THE TAPE keeps its first n bytes: n. BAD.");
        GlanceGrows x = new GlanceGrows();
        Due.is("trim(0) of none", x.trim(0), 0);
        Due.is("trim(1) of none", x.trim(1), BAD);
        x.feed(0x66656520, 0x31322B33, 0x34202020);
        for (int n : new int[] {-1, 13, LEAST, MOST}) { Due.is("trim(" + n + ")", x.trim(n), BAD); }
        Due.is("12 still", x.count(7), 12);
        Due.is("all", x.trim(12), 12);
        Due.is("six", x.trim(6), 6);
        Due.is("seven of six", x.trim(7), BAD);
        Due.is("the first ones", x.text(), 0);
        Due.is("12", x.fee(), 12);
        x.feed(0x66656520, 0x31322B33, 0x34202020);
        x.trim(4);
        x.feed(0x39202020, 0x20202020, 0x20202020);
        Due.is("more behind those kept", x.count(7), 16);
        x.text();
        Due.is("9", x.fee(), 9);
        x.feed(1, 1, 1);
        Due.is("none", x.trim(0), 0);
        Due.is("empty", x.text(), -100);
    }

    private static void text() {
        Due.sentence(31, "-100 less the place of its FAULT; FULL.");
        GlanceGrows x = new GlanceGrows();
        Due.is("an empty tape", x.text(), -100);
        Due.is("a FAULT", Due.text(x, "fee 1 1"), -106);
        for (String faulty : new String[] {"fee !3+", "fee 1+!3)", "fee !!3+!4*", "fee 1*2*3*4 5"}) {
            GlanceGrows y = new GlanceGrows();
            Due.is("a FAULT at the end of '" + faulty + "'", Due.text(y, faulty) <= -107 ? 1 : 0, 1);
            Due.is("then a TEXT", Due.text(y, "fee 7"), 0);
            Due.is("of which nothing of the other is a part", y.fee(), 7);
            Due.is("nor counts", y.textTold(0, 1), 1);
        }
        for (int i = 0; i < 14; i++) { Due.is("text " + i, Due.text(x, "fine " + i), i); }
        Due.is("FULL", Due.text(x, "fine 77"), FULL);
        Due.is("a FAULT ahead of FULL", Due.text(x, "fine 77 77"), -108);
        Due.is("an empty tape ahead of FULL", x.text(), -100);
        x.one(5, 0, 9, 0, -1);
        Due.is("the 14th counts", x.fine(0), 13);
    }

    private static void textTold() {
        Due.sentence(32, "Of a TEXT: what 0 KEY (0 pull, 1 fee, 2 fine), 1 how many NUMBERS and NAMES it has. BAD.");
        GlanceGrows x = new GlanceGrows();
        Due.is("no TEXT", x.textTold(0, 0), BAD);
        Due.text(x, "pull s");
        Due.text(x, "fee 1+g*(v-!12)|0&3<4=(5>v)");
        Due.is("a FAULT is no TEXT", Due.text(x, "fee 1+g*(v-!12)|0&3<4=(5>v)"), -121);
        Due.is("so none", x.textTold(1, 0), BAD);
        Due.text(x, "fee 1+g*(v-!12)|0&3<4&(5>v)");
        Due.text(x, "fine 0/0");
        int[][] due = {{0, 1}, {1, 9}, {2, 2}};
        for (int t = 0; t < 3; t++) {
            Due.is("KEY of " + t, x.textTold(t, 0), due[t][0]);
            Due.is("how many of " + t, x.textTold(t, 1), due[t][1]);
        }
        for (int t : new int[] {-1, 3, 14, LEAST, MOST}) { Due.is("textTold(" + t + ", 0)", x.textTold(t, 0), BAD); }
        for (int what : new int[] {-1, 2, LEAST, MOST}) { Due.is("textTold(0, " + what + ")", x.textTold(0, what), BAD); }
    }

    private static void why() {
        Due.sentence(33, "The TEXT that counts for a KEY. BAD; NONE.");
        GlanceGrows x = new GlanceGrows();
        for (int key = 0; key < 3; key++) { Due.is("none of " + key, x.why(key), NONE); }
        for (int key : new int[] {-1, 3, LEAST, MOST}) { Due.is("why(" + key + ")", x.why(key), BAD); }
        String[] keys = {"pull 1", "fee 1", "fine 1"};
        for (int i = 0; i < 14; i++) {
            Due.text(x, keys[i % 3]);
            Due.is("the newest", x.why(i % 3), i);
        }
        Due.text(x, keys[0]);
        Due.is("FULL does not count", x.why(0), 12);
        Due.is("nor a FAULT", Due.text(x, "fee"), -103);
        Due.is("the last of fee", x.why(1), 13);
        Due.is("the last of fine", x.why(2), 11);
    }

    // ---- sheets

    private static void sheets() {
        sheet();
        mark();
        pour();
        reads();
        copy();
    }

    private static void sheet() {
        Due.sentence(34, "A SHEET becomes a row of n places of a sort, all 0 (sort -1: MISSING, n any): n (0).");
        GlanceGrows x = new GlanceGrows();
        for (int sort = 0; sort < 2; sort++) {
            for (int n = 0; n <= 24; n++) {
                Due.is("sheet(3, " + sort + ", " + n + ")", x.sheet(3, sort, n), n);
                for (int k = 0; k < n; k++) { x.mark(3, k, 7); }
                x.sheet(3, sort, n);
                x.lay(0, 2, 3);
                int zeros = 0;
                for (int k = 0; k < 26; k++) { zeros += x.item(0, k) == 0 ? 1 : x.item(0, k) == INDEX ? 0 : 100; }
                Due.is("all 0", zeros, n);
                x = new GlanceGrows();
            }
        }
        for (int n : new int[] {0, 24, 25, -1, LEAST, MOST}) {
            x.sheet(1, 0, 2);
            Due.is("sheet(1, -1, " + n + ")", x.sheet(1, -1, n), 0);
            Due.is("MISSING", x.mark(1, 0, 0), NOTHING);
        }
        Due.sentence(34, "BAD: sheet, sort, n above 24; SIZE.");
        x.sheet(1, 0, 2);
        for (int s : new int[] {-1, 4, LEAST, MOST}) {
            Due.is("sheet(" + s + ", 0, 1)", x.sheet(s, 0, 1), BAD);
            Due.is("sheet(" + s + ", 0, -1)", x.sheet(s, 0, -1), BAD);
            Due.is("sheet(" + s + ", -1, 1)", x.sheet(s, -1, 1), BAD);
        }
        for (int sort : new int[] {-2, 2, LEAST, MOST}) {
            Due.is("sort " + sort, x.sheet(1, sort, 1), BAD);
            Due.is("sort " + sort + ", -1 places", x.sheet(1, sort, -1), BAD);
        }
        for (int sort = 0; sort < 2; sort++) {
            Due.is("25", x.sheet(1, sort, 25), BAD);
            Due.is("the most", x.sheet(1, sort, MOST), BAD);
            Due.is("-1", x.sheet(1, sort, -1), SIZE);
            Due.is("the least", x.sheet(1, sort, LEAST), SIZE);
        }
        Due.is("two places still", x.mark(1, 1, 0), 1);
        Due.is("and no third", x.mark(1, 2, 0), INDEX);
    }

    private static int marked(GlanceGrows x, int sheet, int place, int v) {
        Due.is("mark(" + sheet + ", " + place + ", " + v + ")", x.mark(sheet, place, v), 1);
        x.lay(0, 2, sheet);
        return x.item(0, place);
    }

    private static void mark() {
        Due.sentence(35, "of shorts its lowest 16 bits");
        GlanceGrows x = new GlanceGrows();
        x.sheet(0, 0, 2);
        int[][] due = {{32767, 32767}, {32768, -32768}, {65535, -1}, {65536, 0}, {-32768, -32768}, {-32769, 32767}, {MOST, -1}, {LEAST, 0}, {100000, -31072},
            {BAD, (short) BAD}, {NONE + 1, (short) (NONE + 1)}};
        for (int[] d : due) { Due.is(d[0] + " in shorts", marked(x, 0, 1, d[0]), d[1]); }
        Due.sentence(35, "of floats v, -99999 .. 99999; NONE: NO NUMBER");
        x.sheet(1, 1, 2);
        for (int v : new int[] {0, 99999, -99999, 32768, -32769}) { Due.is(v + " in floats", marked(x, 1, 1, v), v); }
        Due.is("NONE in floats", marked(x, 1, 1, NONE), KIND);
        Due.sentence(35, "BAD: sheet; NOTHING; INDEX; KIND: NONE in a row of shorts; BAD: v of floats.");
        for (int s : new int[] {-1, 4, LEAST, MOST}) { Due.is("mark(" + s + ", 9, NONE)", x.mark(s, 9, NONE), BAD); }
        Due.is("MISSING", x.mark(2, 9, NONE), NOTHING);
        for (int p : new int[] {-1, 2, 24, LEAST, MOST}) {
            Due.is("place " + p + " of shorts", x.mark(0, p, NONE), INDEX);
            Due.is("place " + p + " of floats", x.mark(1, p, 100000), INDEX);
        }
        Due.is("NONE in shorts", x.mark(0, 0, NONE), KIND);
        for (int v : new int[] {100000, -100000, LEAST, MOST, NONE + 1, NONE - 1, BAD}) { Due.is(v + " in floats", x.mark(1, 0, v), BAD); }
        x.sheet(3, 1, 0);
        Due.is("place 0 of none", x.mark(3, 0, 0), INDEX);
    }

    private static void pour() {
        Due.sentence(36, "each held within 0 .. 200; NO NUMBER, and beyond the SHEET: it stays");
        GlanceGrows x = still();
        for (int i = 0; i < 8; i++) { x.one(5, i, 100, 0, -1); }
        x.sheet(0, 1, 7);
        int[] marks = {0, 200, 201, -1, 99999, -99999, NONE}, due = {0, 200, 200, 0, 200, 0, 100, 100};
        for (int k = 0; k < 7; k++) { x.mark(0, k, marks[k]); }
        Due.is("six are otherwise", x.pour(0), 6);
        for (int i = 0; i < 8; i++) { Due.is("SIZED of " + i, x.told(i, 2), due[i]); }
        Due.is("VANISHED, BUMPS stay", x.town(1) + x.town(2), 0);
        Due.sentence(36, "how many are otherwise then. BAD; NOTHING.");
        Due.is("none is otherwise", x.pour(0), 0);
        x.mark(0, 2, 500);
        x.mark(0, 3, -500);
        Due.is("held to what they are", x.pour(0), 0);
        x.mark(0, 6, 101);
        Due.is("one is", x.pour(0), 1);
        x.sheet(1, 0, 0);
        Due.is("no places", x.pour(1), 0);
        x.sheet(1, 0, 24);
        Due.is("more places than PEOPLE", x.pour(1), 5);
        Due.is("all 0", x.town(3), 0);
        for (int s : new int[] {-1, 4, LEAST, MOST}) { Due.is("pour(" + s + ")", x.pour(s), BAD); }
        Due.is("MISSING", x.pour(2), NOTHING);
        GlanceGrows y = new GlanceGrows();
        y.sheet(0, 0, 24);
        Due.is("no PEOPLE", y.pour(0), 0);
    }

    private static void reads() {
        Due.sentence(37, "The first place (of numbers alone) at which a SHEET is not the PLACE of that one (of places that are none of the PEOPLE all numbers are not).");
        GlanceGrows x = still();
        for (int i = 0; i < 8; i++) { x.one(5, 19 - i, 9, 0, -1); }
        x.sheet(0, 1, 8);
        for (int k = 0; k < 8; k++) {
            Due.is("place " + k, x.reads(0), k);
            x.mark(0, k, 19 - k);
        }
        Due.is("all are", x.reads(0), NONE);
        x.mark(0, 0, 20);
        Due.is("the first", x.reads(0), 0);
        x.mark(0, 0, NONE);
        Due.is("no number", x.reads(0), NONE);
        x.sheet(1, 1, 24);
        for (int k = 0; k < 24; k++) { x.mark(1, k, k < 8 ? 19 - k : NONE); }
        Due.is("beyond the PEOPLE no numbers", x.reads(1), NONE);
        x.mark(1, 23, 0);
        Due.is("the last place", x.reads(1), 23);
        x.mark(1, 8, 0);
        Due.is("the first beyond the PEOPLE", x.reads(1), 8);
        Due.sentence(37, "BAD; NOTHING; NONE: there is none.");
        for (int s : new int[] {-1, 4, LEAST, MOST}) { Due.is("reads(" + s + ")", x.reads(s), BAD); }
        Due.is("MISSING", x.reads(2), NOTHING);
        x.sheet(2, 0, 0);
        Due.is("no places", x.reads(2), NONE);
        GlanceGrows y = new GlanceGrows();
        y.sheet(0, 0, 1);
        Due.is("no PEOPLE, a number", y.reads(0), 0);
        y.sheet(0, 1, 1);
        y.mark(0, 0, NONE);
        Due.is("no PEOPLE, no number", y.reads(0), NONE);
    }

    private static void copy() {
        Due.sentence(38, "So many places of a SHEET come to another one (or the same), as they were: many.");
        for (int from = 0; from <= 6; from++) {
            for (int to = 0; to <= 6; to++) {
                int many = 6 - Math.max(from, to);
                GlanceGrows x = new GlanceGrows();
                x.sheet(0, 0, 6);
                for (int k = 0; k < 6; k++) { x.mark(0, k, 10 + k); }
                Due.is("copy(0, " + from + ", 0, " + to + ", " + many + ")", x.copy(0, from, 0, to, many), many);
                x.lay(0, 2, 0);
                for (int k = 0; k < 6; k++) {
                    Due.is("place " + k, x.item(0, k), k >= to && k < to + many ? 10 + k - to + from : 10 + k);
                }
                Due.is("one more", x.copy(0, from, 0, to, many + 1), INDEX);
            }
        }
        copyRefused();
    }

    private static void copyRefused() {
        Due.sentence(38, "BAD; NOTHING; KIND: they are not of one sort; INDEX.");
        GlanceGrows x = new GlanceGrows();
        x.sheet(0, 0, 4);
        x.sheet(1, 0, 2);
        x.sheet(2, 1, 4);
        for (int s : new int[] {-1, 4, LEAST, MOST}) {
            Due.is("from " + s, x.copy(s, 99, 3, 99, -1), BAD);
            Due.is("to " + s, x.copy(3, 99, s, 99, -1), BAD);
        }
        Due.is("from MISSING", x.copy(3, 99, 2, 99, -1), NOTHING);
        Due.is("to MISSING", x.copy(0, 99, 3, 99, -1), NOTHING);
        Due.is("MISSING to itself", x.copy(3, 0, 3, 0, 0), NOTHING);
        Due.is("shorts to floats", x.copy(0, 99, 2, 0, 1), KIND);
        Due.is("floats to shorts", x.copy(2, 0, 0, 0, -1), KIND);
        Due.is("none of them, other sorts", x.copy(2, 0, 0, 0, 0), KIND);
        int[][] index = {{-1, 0, 0}, {0, -1, 0}, {0, 0, -1}, {5, 0, 0}, {0, 3, 0}, {4, 0, 1}, {0, 2, 1}, {0, 0, 3}, {3, 0, 2}, {0, 1, 2}, {LEAST, 0, 1}, {0, LEAST, 1},
            {0, 0, LEAST}, {MOST, 0, 1}, {0, MOST, 1}, {0, 0, MOST}, {1, 1, MOST}, {MOST, MOST, MOST}, {LEAST, LEAST, LEAST}, {2, 2, LEAST}};
        for (int[] i : index) { Due.is("copy(0, " + i[0] + ", 1, " + i[1] + ", " + i[2] + ")", x.copy(0, i[0], 1, i[1], i[2]), INDEX); }
        Due.is("none at the ends", x.copy(0, 4, 1, 2, 0), 0);
        Due.is("two to two", x.copy(0, 2, 1, 0, 2), 2);
        x.sheet(3, 0, 0);
        Due.is("none to none", x.copy(3, 0, 3, 0, 0), 0);
        Due.is("one to none", x.copy(0, 0, 3, 0, 1), INDEX);
    }

    // ---- slots

    private static void slots() {
        lay();
        ask();
        item();
        rest();
    }

    private static void lay() {
        Due.sentence(39, "thing 0 nothing, 1 ONE k, 2 SHEET k, 3 the number k: what it held (0 .. 3).");
        GlanceGrows x = pair();
        x.sheet(0, 0, 1);
        int[] things = {0, 1, 2, 3, 0, 2, 1, 3, 2, 0, 3, 1, 1, 2, 2, 3, 3, 0, 0};
        int was = 0;
        for (int t : things) {
            Due.is("lay " + t + " over " + was, x.lay(4, t, 0), was);
            was = t;
        }
        for (int k : new int[] {-1, 99, LEAST, MOST}) {
            Due.is("nothing, k any", x.lay(0, 0, k), k == -1 ? 0 : 3);
            Due.is("the number " + k, x.lay(0, 3, k), 0);
        }
        Due.sentence(39, "BAD: slot, thing, k; NOTHING: that SHEET is MISSING.");
        for (int s : new int[] {-1, 5, LEAST, MOST}) {
            for (int t = 0; t < 4; t++) { Due.is("lay(" + s + ", " + t + ", 1)", x.lay(s, t, 1), BAD); }
        }
        for (int t : new int[] {-1, 4, LEAST, MOST}) { Due.is("thing " + t, x.lay(0, t, 0), BAD); }
        for (int k : NOBODY) { Due.is("ONE " + k, x.lay(0, 1, k), BAD); }
        for (int k : new int[] {-1, 4, LEAST, MOST}) { Due.is("SHEET " + k, x.lay(0, 2, k), BAD); }
        for (int k = 1; k < 4; k++) { Due.is("MISSING " + k, x.lay(0, 2, k), NOTHING); }
        Due.is("it holds what it held", x.rest(0, LEAST), MOST);
        x.sheet(3, 1, 0);
        Due.is("an empty SHEET is one", x.lay(0, 2, 3), 3);
    }

    private static void ask() {
        Due.sentence(40, "BAD; NOTHING; KIND: it is no ONE, or not of that KIND, nor of one under it.");
        GlanceGrows x = pair();
        for (int s : new int[] {-1, 5, LEAST, MOST}) { Due.is("ask(" + s + ", 0)", x.ask(s, 0), BAD); }
        for (int kind : new int[] {-1, 6, LEAST, MOST}) { Due.is("ask(0, " + kind + ")", x.ask(0, kind), BAD); }
        for (int kind = 0; kind < 6; kind++) { Due.is("nothing as " + kind, x.ask(0, kind), NOTHING); }
        x.sheet(0, 0, 1);
        x.lay(0, 2, 0);
        x.lay(1, 3, 0);
        Due.is("a SHEET", x.ask(0, 0), KIND);
        Due.is("a number", x.ask(1, 0), KIND);
        Due.is("a SHEET, and wrong", x.ask(0, 6), BAD);
        Due.sentence(40, "WORTH of the ONE in a SLOT, taken for one of a KIND (0 .. 5).");
        String[] under = {"0", "01", "02", "013", "024", "05"};
        int[] worth = {200, 205, 0, 410, -6, 3};
        x.set(0, 2, 200);
        for (int kind = 0; kind < 6; kind++) {
            x.turns(0, kind);
            x.lay(4, 1, 0);
            for (int as = 0; as < 6; as++) {
                Due.is(kind + " as " + as, x.ask(4, as), under[kind].indexOf('0' + as) >= 0 ? worth[kind] : KIND);
            }
        }
    }

    private static void item() {
        Due.sentence(41, "BAD: slot; NOTHING; KIND: it is no SHEET; INDEX; KIND: NO NUMBER.");
        GlanceGrows x = pair();
        for (int s : new int[] {-1, 5, LEAST, MOST}) { Due.is("item(" + s + ", 0)", x.item(s, 0), BAD); }
        Due.is("nothing", x.item(0, -1), NOTHING);
        x.lay(0, 1, 0);
        x.lay(1, 3, 0);
        Due.is("a ONE", x.item(0, -1), KIND);
        Due.is("a number", x.item(1, -1), KIND);
        for (int n = 0; n <= 24; n++) {
            x.sheet(0, 1, n);
            if (n > 0) { x.mark(0, n - 1, NONE); }
            x.lay(2, 2, 0);
            Due.is("place -1 of " + n, x.item(2, -1), INDEX);
            Due.is("place " + n + " of " + n, x.item(2, n), INDEX);
            if (n > 0) { Due.is("NO NUMBER, the last", x.item(2, n - 1), KIND); }
            if (n > 1) { Due.is("0, the first", x.item(2, 0), 0); }
        }
        Due.is("place LEAST", x.item(2, LEAST), INDEX);
        Due.is("place MOST", x.item(2, MOST), INDEX);
    }

    private static void rest() {
        Due.sentence(42, "The rest of the number in a SLOT by n.");
        GlanceGrows x = pair();
        int[][] due = {{17, 5, 2}, {-17, 5, -2}, {17, -5, 2}, {-17, -5, -2}, {0, 7, 0}, {7, 1, 0}, {7, -1, 0}, {LEAST, -1, 0}, {LEAST, 1, 0}, {LEAST, LEAST, 0},
            {LEAST, MOST, -1}, {MOST, LEAST, MOST}, {MOST, MOST, 0}, {3, 5, 3}};
        for (int[] d : due) {
            x.lay(0, 3, d[0]);
            Due.is(d[0] + " by " + d[1], x.rest(0, d[1]), d[2]);
        }
        Due.sentence(42, "BAD: slot; NOTHING; KIND: it is no number; NO: n is 0.");
        Due.is("by 0", x.rest(0, 0), NO);
        for (int s : new int[] {-1, 5, LEAST, MOST}) { Due.is("rest(" + s + ", 0)", x.rest(s, 0), BAD); }
        Due.is("nothing, by 0", x.rest(1, 0), NOTHING);
        x.sheet(0, 0, 1);
        x.lay(1, 1, 0);
        x.lay(2, 2, 0);
        Due.is("a ONE, by 0", x.rest(1, 0), KIND);
        Due.is("a SHEET, by 0", x.rest(2, 0), KIND);
        x.lay(3, 3, 0);
        Due.is("0 by 0", x.rest(3, 0), NO);
    }

    // ---- rows, images

    private static void rowsAndImages() {
        tell();
        check();
        checkRows();
        checkLastDays();
        keep();
        back();
        count();
    }

    private static void tell() {
        Due.sentence(43, "One more number waits: how many. FULL: 60 wait.");
        GlanceGrows x = new GlanceGrows();
        for (int i = 1; i <= 60; i++) { Due.is("tell " + i, x.tell(i % 2 == 0 ? LEAST : MOST), i); }
        Due.is("a 61st", x.tell(0), FULL);
        Due.is("60", x.count(6), 60);
        x.check(1);
        Due.is("none", x.count(6), 0);
        Due.is("the first again", x.tell(0), 1);
    }

    private static int tells(GlanceGrows x, int n, int... numbers) {
        for (int v : numbers) { x.tell(v); }
        return x.check(n);
    }

    private static void check() {
        Due.sentence(44, "The numbers that wait (none do then, whatever is answered)");
        GlanceGrows x = pair();
        Due.is("NO", tells(x, 1, 2, 18), NO);
        Due.is("none then", x.count(6), 0);
        Due.is("BAD", tells(x, 0, 2, 18), BAD);
        Due.is("none then", x.count(6), 0);
        x.keep();
        Due.is("0", tells(x, 1, 2, 18), 0);
        Due.is("none then", x.count(6), 0);
        Due.is("else", tells(x, 1, 2, 19), 2);
        Due.is("none then", x.count(6), 0);
        Due.sentence(44, "BAD; NO: there is no IMAGE.");
        GlanceGrows y = pair();
        for (int n : new int[] {0, -1, 31, LEAST, MOST}) {
            Due.is("check(" + n + ") without an IMAGE", y.check(n), BAD);
            Due.is("check(" + n + ")", x.check(n), BAD);
        }
        Due.is("without an IMAGE", y.check(1), NO);
        Due.is("without an IMAGE", y.check(30), NO);
    }

    /** An IMAGE of DAY 3, with 6 GLANCES; behind it another DAY and other SIZES. */
    private static GlanceGrows keptPair() {
        GlanceGrows x = pair();
        x.days(3);
        x.keep();
        x.days(7);
        x.set(0, 2, 99);
        return x;
    }

    private static void checkRows() {
        Due.sentence(44, "0; else 1 and how many stand right ahead of the first that is not (or is missing, or one too many)");
        for (int n = 1; n <= 30; n++) {
            for (int told = 0; told <= Math.min(60, 2 * n + 3); told++) {
                GlanceGrows x = keptPair();
                for (int i = 0; i < told; i++) { x.tell(i % 2 == 0 ? 8 + i : 18); }
                Due.is(told + " told of " + n + " DAYS", x.check(n), told == 2 * n ? 0 : told < 2 * n ? told + 1 : 2 * n + 1);
            }
        }
        for (int wrong = 0; wrong < 60; wrong++) {
            GlanceGrows x = keptPair();
            for (int i = 0; i < 60; i++) { x.tell((i % 2 == 0 ? 8 + i : 18) + (i == wrong ? wrong % 3 - 3 : 0)); }
            Due.is("number " + wrong + " is not", x.check(30), wrong + 1);
        }
        GlanceGrows x = keptPair();
        Due.is("one that is not ahead of one missing", tells(x, 2, 8, 17), 2);
        Due.is("one that is not ahead of one too many", tells(x, 1, 9, 18, 10), 1);
    }

    private static void checkLastDays() {
        Due.sentence(44, "fewer, if THE DAY would be above 9999");
        GlanceGrows x = pair();
        for (int i = 0; i < 99; i++) { x.days(100); }
        x.days(98);
        x.keep();
        Due.is("one DAY of 30", tells(x, 30, 19998, 18), 0);
        Due.is("a second is one too many", tells(x, 30, 19998, 18, 20000, 18), 3);
        Due.is("one DAY is missing", tells(x, 30), 1);
        x.days(1);
        Due.is("by THE IMAGE, not by now", tells(x, 1, 19998, 18), 0);
        x.keep();
        Due.is("no DAY of 30", tells(x, 30), 0);
        Due.is("one is too many", tells(x, 1, 19998), 1);
        Due.is("wrong all the same", tells(x, 31), BAD);
    }

    private static void keep() {
        Due.sentence(45, "AN IMAGE is kept: how many PEOPLE.");
        GlanceGrows x = new GlanceGrows();
        for (int n = 0; n <= 8; n++) {
            Due.is("keep of " + n, x.keep(), n);
            Due.is("it is the newest", x.back(), n);
            if (n < 8) { x.one(5, n, 9, 0, -1); }
        }
    }

    private static void back() {
        Due.sentence(46, "All is as THE IMAGE: how many PEOPLE. NO: there is none.");
        GlanceGrows x = new GlanceGrows();
        Due.is("none", x.back(), NO);
        x.deal(8);
        Due.is("none still", x.back(), NO);
        Due.is("eight still", x.count(0), 8);
        x.keep();
        x.days(30);
        Due.is("eight", x.back(), 8);
        Due.is("on DAY 0", x.count(1), 0);
        Due.is("GLANCES, VANISHED, BUMPS", x.town(0) + x.town(1) + x.town(2), 0);
        Due.is("once more", x.back(), 8);
        GlanceGrows y = pair();
        Due.text(y, "fee 5");
        y.keep();
        Due.text(y, "fee 6");
        Due.text(y, "fine 7");
        y.back();
        Due.is("the TEXT that counted", y.why(1), 0);
        Due.is("what it gives", y.fee(), 5);
        Due.is("none of fine", y.why(2), NONE);
        Due.is("NOISE", y.fine(0), 3);
        Due.is("a new one has the old number", Due.text(y, "fine 8"), 1);
        Due.is("and counts", y.fine(0), 8);
        y.back();
        Due.is("not in THE IMAGE", y.fine(0), 3);
        for (int i = 1; i < 14; i++) { Due.text(y, "fee " + i); }
        Due.is("FULL", Due.text(y, "fee 99"), FULL);
        y.back();
        Due.is("room again", Due.text(y, "fee 99"), 1);
    }

    private static void count() {
        Due.sentence(47, "5 TEXTS, 6 numbers that wait, 7 bytes of THE TAPE, 8 z. BAD.");
        GlanceGrows x = new GlanceGrows();
        for (int what : new int[] {-1, 9, LEAST, MOST}) { Due.is("count(" + what + ")", x.count(what), BAD); }
        for (int i = 0; i < 14; i++) { Due.text(x, "fee 1"); }
        for (int i = 0; i < 60; i++) { x.tell(i); }
        for (int i = 0; i < 8; i++) { x.feed(1, 1, 1); }
        x.seed(LEAST);
        x.rule(0, 200);
        x.rule(1, 100);
        x.rule(2, 99);
        for (int i = 0; i < 8; i++) { x.one(5, i, 0, 0, -1); }
        int[] due = {8, 0, 200, 100, 99, 14, 60, 96, LEAST};
        for (int i = 0; i < 9; i++) { Due.is("count(" + i + ")", x.count(i), due[i]); }
    }
}
