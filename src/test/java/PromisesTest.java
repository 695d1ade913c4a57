/** Promise by promise: ordinary calls, the edges that the document names, wrong calls; worked out by hand. */
public final class PromisesTest {
    private static final int BAD = GlanceGrows.BAD, NO = GlanceGrows.NO, FULL = GlanceGrows.FULL, NONE = GlanceGrows.NONE,
            NOTHING = GlanceGrows.NOTHING, KIND = GlanceGrows.KIND, INDEX = GlanceGrows.INDEX, SIZE = GlanceGrows.SIZE;
    private static final int LEAST = Integer.MIN_VALUE, MOST = Integer.MAX_VALUE;

    public static void main(String[] args) {
        newObject();
        one();
        toldOfKinds();
        as();
        turnsAndSet();
        movesScreenAt();
        rule();
        deal();
        dealWithoutPlaces();
        looksOfKinds();
        looksOfTies();
        seesOverOthers();
        daysGrow();
        daysDraw();
        lastDay();
        curtain();
        seat();
        behind();
        vanishesAndBumps();
        loud();
        loved();
        lovedByTheLast();
        becomes();
        like();
        feeAndFine();
        tape();
        textsAndFaults();
        faultsOfDepth();
        textsWork();
        fullTexts();
        pullText();
        sheetAndMark();
        pour();
        reads();
        copy();
        slots();
        check();
        checkAtTheLastDay();
        fullTown();
        images();
        count();
        Due.ends();
    }

    /** A town in which nobody moves and no noise changes. */
    private static GlanceGrows still() {
        GlanceGrows x = new GlanceGrows();
        x.rule(1, 0);
        x.rule(2, 0);
        return x;
    }

    private static void newObject() {
        GlanceGrows x = new GlanceGrows();
        int[] due = {0, 0, 120, 20, 20, 0, 0, 0, 1};
        for (int i = 0; i < due.length; i++) { Due.is("new: count(" + i + ")", x.count(i), due[i]); }
        for (int i = 0; i < 5; i++) { Due.is("new: town(" + i + ")", x.town(i), 0); }
        for (int i = 0; i < 20; i++) { Due.is("new: at(" + i + ")", x.at(i), NONE); }
        for (int i = 0; i < 4; i++) { Due.is("new: reads(" + i + ")", x.reads(i), NOTHING); }
        for (int i = 0; i < 5; i++) { Due.is("new: rest(" + i + ", 1)", x.rest(i, 1), NOTHING); }
        for (int i = 0; i < 3; i++) { Due.is("new: why(" + i + ")", x.why(i), NONE); }
        Due.is("new: told(0, 0)", x.told(0, 0), BAD);
        Due.is("new: back()", x.back(), NO);
    }

    private static void one() {
        GlanceGrows x = new GlanceGrows();
        int[][] bad = {{-1, 0, 0, 0, 0}, {6, 0, 0, 0, 0}, {0, -1, 0, 0, 0}, {0, 20, 0, 0, 0}, {0, 0, -1, 0, 0}, {0, 0, 201, 0, 0},
            {0, 0, 0, -1, 0}, {0, 0, 0, 51, 0}, {0, 0, 0, 0, -2}, {0, 0, 0, 0, 8}, {LEAST, LEAST, LEAST, LEAST, LEAST}, {MOST, MOST, MOST, MOST, MOST}};
        for (int[] b : bad) { Due.is("one, wrong", x.one(b[0], b[1], b[2], b[3], b[4]), BAD); }
        Due.is("nobody came", x.count(0), 0);
        x.screen(3, 1);
        Due.is("one on a screen", x.one(0, 3, 1, 1, 1), NO);
        Due.is("one at the edges", x.one(5, 19, 200, 50, 7), 0);
        Due.is("one at the other edges", x.one(0, 0, 0, 0, -1), 1);
        Due.is("one where somebody is", x.one(0, 19, 1, 1, 1), NO);
        for (int i = 2; i < 8; i++) { Due.is("one " + i, x.one(0, i + 5, 1, 1, 1), i); }
        Due.is("a ninth", x.one(0, 1, 1, 1, 1), FULL);
        Due.is("a ninth where somebody is", x.one(0, 0, 1, 1, 1), NO);
        Due.is("a ninth on a screen", x.one(0, 3, 1, 1, 1), NO);
        Due.is("a wrong ninth", x.one(0, 0, 1, 1, 9), BAD);
        Due.is("eight there", x.count(0), 8);
    }

    /** GROWS and WORTH of all kinds, by no, one and three glances. */
    private static void toldOfKinds() {
        int[][] grows = {{-2, 1, 3}, {-4, 2, 6}, {-1, 0, 1}, {-4, 2, 6}, {-2, -1, 0}, {0, 0, 0}};
        int[] worth = {60, 65, 140, 130, 134, 3};
        for (int kind = 0; kind < 6; kind++) {
            GlanceGrows x = still();
            x.one(kind, 6, 60, 9, 5);
            Due.is("WORTH of kind " + kind, x.told(0, 6), worth[kind]);
            Due.is("GROWS by 0 of kind " + kind, x.told(0, 5), grows[kind][0]);
            x.one(0, 5, 1, 0, -1);
            Due.is("GROWS by 1 of kind " + kind, x.told(0, 5), grows[kind][1]);
            x.one(0, 7, 1, 0, -1);
            x.one(0, 1, 1, 0, -1);
            Due.is("GROWS by 3 of kind " + kind, x.told(0, 5), grows[kind][2]);
            Due.is("KIND", x.told(0, 0), kind);
            Due.is("PLACE", x.told(0, 1), 6);
            Due.is("SIZED", x.told(0, 2), 60);
            Due.is("NOISE", x.told(0, 3), 9);
            Due.is("LOVES", x.told(0, 4), 5);
            Due.is("told(0, -1)", x.told(0, -1), BAD);
            Due.is("told(0, 7)", x.told(0, 7), BAD);
            Due.is("told(4, 0)", x.told(4, 0), BAD);
            Due.is("told(-1, 0)", x.told(-1, 0), BAD);
        }
        GlanceGrows x = still();
        x.one(4, 0, 200, 0, 0);
        Due.is("WORTH of a tall MOUSE", x.told(0, 6), -6);
    }

    private static void as() {
        int[] sets = {0b000001, 0b000011, 0b000101, 0b001011, 0b010101, 0b100001};
        for (int kind = 0; kind < 6; kind++) {
            GlanceGrows x = new GlanceGrows();
            x.one(kind, 0, 44, 0, 0);
            for (int above = 0; above < 6; above++) {
                Due.is("kind " + kind + " as " + above, x.as(0, above), (sets[kind] >> above & 1) == 1 ? 44 : KIND);
            }
            Due.is("as(0, 6)", x.as(0, 6), BAD);
            Due.is("as(0, -1)", x.as(0, -1), BAD);
            Due.is("as(1, 0)", x.as(1, 0), BAD);
            Due.is("as(-1, 0)", x.as(-1, 0), BAD);
        }
    }

    private static void turnsAndSet() {
        GlanceGrows x = new GlanceGrows();
        x.one(1, 0, 10, 20, 3);
        Due.is("turns(0, 4)", x.turns(0, 4), 1);
        Due.is("turns(0, 4) again", x.turns(0, 4), 4);
        Due.is("turns(0, 0)", x.turns(0, 0), 4);
        Due.is("turns(0, 5)", x.turns(0, 5), 0);
        Due.is("turns(0, 4) once more", x.turns(0, 4), 5);
        Due.is("turns(0, 6)", x.turns(0, 6), BAD);
        Due.is("turns(0, -1)", x.turns(0, -1), BAD);
        Due.is("turns(1, 0)", x.turns(1, 0), BAD);
        Due.is("its KIND", x.told(0, 0), 4);
        Due.is("set SIZED", x.set(0, 2, 200), 10);
        Due.is("set SIZED 0", x.set(0, 2, 0), 200);
        Due.is("nobody VANISHED by set", x.town(1), 0);
        Due.is("set NOISE", x.set(0, 3, 50), 20);
        Due.is("set LOVES", x.set(0, 4, 7), 3);
        Due.is("set LOVES nobody", x.set(0, 4, -1), 7);
        int[][] bad = {{0, 2, -1}, {0, 2, 201}, {0, 3, -1}, {0, 3, 51}, {0, 4, -2}, {0, 4, 8}, {0, 1, 5}, {0, 0, 1}, {0, 5, 0}, {0, 6, 0}, {1, 2, 5}, {-1, 2, 5}};
        for (int[] b : bad) { Due.is("set, wrong", x.set(b[0], b[1], b[2]), BAD); }
        Due.is("SIZED stays", x.told(0, 2), 0);
        Due.is("NOISE stays", x.told(0, 3), 50);
        Due.is("LOVES stays", x.told(0, 4), -1);
    }

    private static void movesScreenAt() {
        GlanceGrows x = new GlanceGrows();
        x.one(0, 4, 10, 0, 0);
        x.one(0, 5, 10, 0, 0);
        Due.is("screen(19, 1)", x.screen(19, 1), 0);
        Due.is("screen(19, 1) again", x.screen(19, 1), 1);
        Due.is("moves to a screen", x.moves(0, 19), NO);
        Due.is("moves to another's", x.moves(0, 5), NO);
        Due.is("moves to its own", x.moves(0, 4), NO);
        Due.is("moves(0, 20)", x.moves(0, 20), BAD);
        Due.is("moves(0, -1)", x.moves(0, -1), BAD);
        Due.is("moves(2, 0)", x.moves(2, 0), BAD);
        Due.is("moves(0, 18)", x.moves(0, 18), 4);
        Due.is("moves(0, 0)", x.moves(0, 0), 18);
        Due.is("moves(0, 18) again", x.moves(0, 18), 0);
        Due.is("at(4)", x.at(4), NONE);
        Due.is("at(18)", x.at(18), 0);
        Due.is("at(5)", x.at(5), 1);
        Due.is("at(19)", x.at(19), NONE);
        Due.is("at(20)", x.at(20), BAD);
        Due.is("at(-1)", x.at(-1), BAD);
        Due.is("screen where somebody is", x.screen(18, 1), NO);
        Due.is("no screen where somebody is", x.screen(18, 0), 0);
        Due.is("screen(4, 1)", x.screen(4, 1), 0);
        Due.is("screen(20, 1)", x.screen(20, 1), BAD);
        Due.is("screen(-1, 1)", x.screen(-1, 1), BAD);
        Due.is("screen(0, 2)", x.screen(0, 2), BAD);
        Due.is("screen(18, 2)", x.screen(18, 2), BAD);
        Due.is("screen(0, -1)", x.screen(0, -1), BAD);
        Due.is("town(4)", x.town(4), 1 << 19 | 1 << 4);
        Due.is("screen(19, 0)", x.screen(19, 0), 1);
        Due.is("town(4) then", x.town(4), 1 << 4);
    }

    private static void rule() {
        GlanceGrows x = new GlanceGrows();
        Due.is("rule(0, 200)", x.rule(0, 200), 120);
        Due.is("rule(0, 0)", x.rule(0, 0), 200);
        Due.is("rule(1, 100)", x.rule(1, 100), 20);
        Due.is("rule(2, 0)", x.rule(2, 0), 20);
        int[][] bad = {{0, 201}, {0, -1}, {1, 101}, {1, -1}, {2, 101}, {2, -1}, {3, 0}, {-1, 0}};
        for (int[] b : bad) { Due.is("rule, wrong", x.rule(b[0], b[1]), BAD); }
        Due.is("CEILING", x.count(2), 0);
        Due.is("MOVES", x.count(3), 100);
        Due.is("NOISES", x.count(4), 0);
    }

    private static int next(int z) { return z * 1103515245 + 12345; }

    private static void deal() {
        GlanceGrows x = new GlanceGrows();
        Due.is("deal(9)", x.deal(9), BAD);
        Due.is("deal(0)", x.deal(0), BAD);
        Due.is("no draw for a wrong deal", x.count(8), 1);
        Due.is("seed(77)", x.seed(77), 1);
        Due.is("deal(1)", x.deal(1), 1);
        int z = next(77);
        Due.is("KIND drawn", x.told(0, 0), (z >>> 8) % 6);
        z = next(z);
        Due.is("PLACE drawn", x.told(0, 1), (z >>> 8) % 20);
        z = next(z);
        Due.is("SIZED drawn", x.told(0, 2), 20 + (z >>> 8) % 60);
        z = next(z);
        Due.is("NOISE drawn", x.told(0, 3), (z >>> 8) % 30);
        z = next(z);
        Due.is("LOVES drawn", x.told(0, 4), (z >>> 8) % 9 - 1);
        Due.is("z then", x.count(8), z);
        x.seed(77);
        Due.is("the same once more", x.deal(1), 1);
        Due.is("in the next place", x.told(1, 1), (x.told(0, 1) + 1) % 20);
        Due.is("deal(8)", x.deal(8), 6);
        z = x.count(8);
        dealsOfManySeeds();
        Due.is("deal without room", x.deal(1), 0);
        Due.is("no draws for others", x.count(8), z);
    }

    private static void dealsOfManySeeds() {
        int[] by = {6, 20, 60, 30, 9}, more = {0, 0, 20, 0, -1};
        for (int seed = 0; seed < 40; seed++) {
            GlanceGrows x = new GlanceGrows();
            x.seed(seed * 99991);
            x.deal(1);
            int z = seed * 99991;
            for (int i = 0; i < 5; i++) {
                z = next(z);
                Due.is("draw " + i + " of seed " + seed, x.told(0, i), (z >>> 8) % by[i] + more[i]);
            }
        }
    }

    private static void dealWithoutPlaces() {
        GlanceGrows x = new GlanceGrows();
        for (int place = 0; place < 20; place++) {
            if (place != 2) { x.screen(place, 1); }
        }
        Due.is("one place is left", x.deal(5), 1);
        Due.is("that one", x.told(0, 1), 2);
        int z = 1;
        for (int i = 0; i < 10; i++) { z = next(z); }
        Due.is("ten draws", x.count(8), z);
        Due.is("none comes", x.deal(8), 0);
        for (int i = 0; i < 5; i++) { z = next(z); }
        Due.is("five draws more", x.count(8), z);
    }

    /** What each kind PULLS, told by which of two is looked at. */
    private static void looksOfKinds() {
        int[] pulls = {57, 72, 28, 144, 28, 57};
        for (int kind = 0; kind < 6; kind++) {
            GlanceGrows x = still();
            x.one(0, 10, 1, 0, -1);
            x.one(0, 11, 200, 50, -1);
            x.one(kind, 5, 50, 10, -1);
            x.moves(1, 0);
            x.moves(1, 12);
            // The other one is 2 FAR: it PULLS as SIZED less 6, or, by its number, as much.
            x.set(1, 3, 0);
            x.set(1, 2, pulls[kind] + 6);
            Due.is("as much as kind " + kind, x.looks(0), 1);
            x.set(1, 2, pulls[kind] + 5);
            Due.is("less than kind " + kind, x.looks(0), 2);
        }
        GlanceGrows x = still();
        for (int kind = 0; kind < 6; kind++) {
            x.one(kind, kind < 5 ? kind : 8, 50, 0, -1);
        }
        Due.is("a KING looks at nobody", x.looks(3), NONE);
        Due.is("but SEES", x.sees(3), 0b110111);
        Due.is("a KEEPER looks at the KING", x.looks(5), 3);
        Due.is("eyes of the KING", x.eyes(3), 0b110111);
        Due.is("looks(6)", x.looks(6), BAD);
        Due.is("looks(-1)", x.looks(-1), BAD);
        Due.is("eyes(6)", x.eyes(6), BAD);
        Due.is("sees(-1)", x.sees(-1), BAD);
    }

    private static void looksOfTies() {
        GlanceGrows x = still();
        x.one(0, 0, 10, 0, -1);
        x.one(0, 5, 0, 50, -1);
        x.one(0, 1, 1, 0, -1);
        x.one(0, 2, 3, 2, -1);
        Due.is("0 SIZED ones are seen", x.sees(0), 0b1110);
        // 2 PULLS 1 less 3, 3 PULLS 5 less 6: both 0.
        Due.is("of several at 0 the least", x.looks(0), 2);
        x.set(0, 4, 3);
        Due.is("LOVES", x.looks(0), 3);
        x.set(0, 4, 1);
        Due.is("LOVES one who is 0 SIZED", x.looks(0), 2);
        x.set(0, 4, 3);
        x.set(2, 3, 42);
        Due.is("as much as LOVES gives", x.looks(0), 2);
        x.set(2, 3, 41);
        Due.is("less than LOVES gives", x.looks(0), 3);
        Due.is("a 0 SIZED one looks", x.looks(1), 0);
        x.moves(0, 19);
        Due.is("at nobody", x.looks(0), NONE);
        Due.is("nobody seen", x.sees(0), 0);
    }

    private static void seesOverOthers() {
        GlanceGrows x = still();
        x.one(0, 2, 10, 0, -1);
        x.one(0, 17, 20, 0, -1);
        x.one(0, 7, 20, 0, -1);
        Due.is("over one as tall as the taller", x.sees(0), 0b110);
        x.set(2, 2, 21);
        Due.is("not over one taller than both", x.sees(0), 0b100);
        Due.is("nor from there", x.sees(1), 0b100);
        x.moves(2, 8);
        Due.is("round the corner", x.sees(0), 0b010);
        Due.is("neither row nor column", x.sees(2), 0);
        x.screen(12, 1);
        Due.is("not through a screen", x.sees(0), 0);
        x.screen(12, 0);
        x.moves(0, 4);
        x.moves(1, 5);
        Due.is("rows do not go round", x.sees(0), 0);
        Due.is("a row", x.sees(1), 0b100);
        for (int i = 0; i < 3; i++) { x.set(i, 2, 0); }
        Due.is("of 0 SIZED ones both see", x.sees(1), 0b100);
        Due.is("and look at nobody", x.looks(1), NONE);
    }

    private static void daysGrow() {
        GlanceGrows x = still();
        x.rule(0, 49);
        x.one(0, 0, 50, 0, -1);
        x.one(1, 1, 48, 0, -1);
        x.one(0, 19, 2, 0, -1);
        x.one(5, 9, 50, 0, -1);
        Due.is("days(0)", x.days(0), BAD);
        Due.is("days(101)", x.days(101), BAD);
        Due.is("days(-1)", x.days(-1), BAD);
        // 0 and 1 look at one another, 2 and 3 only at each other: 9 and 19 stand in one column.
        Due.is("days(1)", x.days(1), 4);
        Due.is("ONE by 1", x.told(0, 2), 51);
        Due.is("ACTOR by 1", x.told(1, 2), 50);
        Due.is("ONE by 1 again", x.told(2, 2), 3);
        Due.is("KEEPER", x.told(3, 2), 50);
        Due.is("GLANCES", x.town(0), 4);
        Due.is("VANISHED", x.town(1), 0);
        Due.is("BUMPS", x.town(2), 3);
        Due.is("SIZED together", x.town(3), 154);
        x.moves(3, 13);
        Due.is("days(2)", x.days(2), 4);
        Due.is("unseen", x.told(2, 2), 0);
        Due.is("VANISHED then", x.town(1), 1);
        Due.is("BUMPS day by day", x.town(2), 9);
        x.days(3);
        Due.is("VANISHED once", x.town(1), 1);
        Due.is("THE DAY", x.count(1), 6);
        x.days(100);
        Due.is("200 at most", x.told(1, 2), 200);
        Due.is("town(5)", x.town(5), BAD);
        Due.is("town(-1)", x.town(-1), BAD);
        GlanceGrows y = still();
        y.rule(0, 3);
        y.one(0, 0, 5, 0, -1);
        y.days(1);
        Due.is("as tall as CEILING is no bump", y.town(2), 0);
        y.days(1);
        Due.is("1 SIZED is not VANISHED", y.town(1), 0);
        y.days(1);
        Due.is("held at 0 is VANISHED", y.town(1), 1);
    }

    /** With MOVES and NOISES at 100 each day draws six times, with 0 twice; without PEOPLE twice. */
    private static void daysDraw() {
        GlanceGrows x = new GlanceGrows();
        x.rule(1, 100);
        x.rule(2, 100);
        x.days(1);
        Due.is("without PEOPLE two draws", x.count(8), next(next(1)));
        x.one(0, 3, 50, 7, -1);
        x.one(5, 4, 50, 8, -1);
        x.seed(5);
        int[] draw = new int[6];
        int z = 5;
        for (int i = 0; i < 6; i++) { z = next(z); draw[i] = z >>> 8; }
        int mover = draw[1] % 2, to = draw[2] % 20, was = x.told(mover, 1);
        boolean taken = x.at(to) >= 0;
        x.days(1);
        Due.is("moved", x.told(mover, 1), taken ? was : to);
        Due.is("noise", x.told(draw[4] % 2, 3), draw[5] % 30);
        int quiet = 1 - draw[4] % 2;
        Due.is("the other's noise", x.told(quiet, 3), 7 + quiet);
        Due.is("six draws", x.count(8), z);
        x.rule(1, 0);
        x.rule(2, 0);
        x.seed(5);
        x.days(1);
        Due.is("two draws", x.count(8), next(next(5)));
        drawsBelowRules();
        for (int place = 0; place < 20; place++) { x.screen(place, 1); }
        x.rule(1, 100);
        int a = x.told(0, 1), b = x.told(1, 1);
        x.days(50);
        Due.is("screens keep them", x.told(0, 1) * 20 + x.told(1, 1), a * 20 + b);
    }

    /** Draws whose rest by 100 is just at, and just below, what is ruled. */
    private static void drawsBelowRules() {
        for (int seed = 0; seed < 60; seed++) {
            int first = next(seed), second = next(first);
            int a = (first >>> 8) % 100, b = (second >>> 8) % 100;
            GlanceGrows x = new GlanceGrows();
            x.one(5, 0, 50, 50, -1);
            x.rule(1, a);
            x.rule(2, b);
            x.seed(seed);
            x.days(1);
            Due.is("at the rules two draws", x.count(8), second);
            Due.is("NOISE stays", x.told(0, 3), 50);
            x.rule(2, Math.min(100, b + 1));
            x.seed(seed);
            x.days(1);
            Due.is("NOISES above it four draws", x.count(8), next(next(second)));
            Due.is("NOISE drawn", x.told(0, 3), (x.count(8) >>> 8) % 30);
            x.rule(1, Math.min(100, a + 1));
            x.rule(2, 0);
            x.seed(seed);
            x.days(1);
            Due.is("MOVES above it four draws", x.count(8), next(next(second)));
            Due.is("PLACE drawn", x.told(0, 1), (next(second) >>> 8) % 20);
        }
    }

    private static void lastDay() {
        GlanceGrows x = still();
        x.one(5, 0, 9, 0, -1);
        x.one(5, 1, 9, 0, -1);
        for (int i = 0; i < 99; i++) { x.days(100); }
        Due.is("THE DAY", x.count(1), 9900);
        Due.is("up to 9999", x.days(100), 198);
        Due.is("THE DAY is 9999", x.count(1), 9999);
        int z = x.count(8);
        Due.is("no more", x.days(1), 0);
        Due.is("no draws", x.count(8), z);
        Due.is("wrong all the same", x.days(0), BAD);
        Due.is("thought goes on", x.behind(3, 0), 2 * 9999 + 6);
    }

    private static void curtain() {
        GlanceGrows x = still();
        x.one(0, 0, 10, 0, -1);
        x.one(0, 4, 10, 0, -1);
        x.one(0, 15, 10, 0, -1);
        // 1 and 2 look at 0, each along four or three places; the least that is between is 1.
        Due.is("eyes(0)", x.eyes(0), 0b110);
        Due.is("CURTAIN", x.curtain(0, 0), 1);
        Due.is("how many then", x.curtain(0, 1), 1);
        x.screen(1, 1);
        Due.is("CURTAIN with a screen there", x.curtain(0, 0), 5);
        Due.is("how many then", x.curtain(0, 1), 0);
        Due.is("nothing hangs", x.town(4), 2);
        Due.is("curtain(3, 0)", x.curtain(3, 0), BAD);
        Due.is("curtain(0, 2)", x.curtain(0, 2), BAD);
        Due.is("curtain(0, -1)", x.curtain(0, -1), BAD);
        for (int place = 0; place < 20; place++) { x.screen(place, 1); }
        Due.is("no such PLACE", x.curtain(0, 0), NONE);
        Due.is("no such PLACE, how many", x.curtain(0, 1), NONE);
        Due.is("wrong ahead of none", x.curtain(0, 2), BAD);
        GlanceGrows y = still();
        y.one(0, 8, 10, 0, -1);
        Due.is("of all the least", y.curtain(0, 0), 0);
        Due.is("seat: of all the least", y.seat(0, 0), 0);
    }

    private static void seat() {
        GlanceGrows x = still();
        x.one(0, 19, 10, 0, -1);
        x.one(0, 2, 10, 0, -1);
        x.one(0, 6, 10, 0, -1);
        // Where 2's column and 6's row cross, and the other way round: 7 and 1, both look there.
        Due.is("SEAT", x.seat(0, 0), 1);
        Due.is("how many", x.seat(0, 1), 2);
        x.screen(1, 1);
        Due.is("SEAT, 1 with a screen", x.seat(0, 0), 7);
        x.screen(7, 1);
        Due.is("one eye is the most", x.seat(0, 1), 1);
        Due.is("SEAT where one looks", x.seat(0, 0), 3);
        Due.is("it sits where it sat", x.told(0, 1), 19);
        for (int place = 0; place < 20; place++) { x.screen(place, 1); }
        Due.is("only its own", x.seat(0, 0), 19);
        Due.is("only its own, how many", x.seat(0, 1), 0);
        Due.is("seat(3, 0)", x.seat(3, 0), BAD);
        Due.is("seat(0, 2)", x.seat(0, 2), BAD);
        Due.is("seat(0, -1)", x.seat(0, -1), BAD);
    }

    private static void behind() {
        GlanceGrows x = new GlanceGrows();
        x.deal(5);
        x.days(3);
        GlanceGrows y = new GlanceGrows();
        y.deal(5);
        y.days(3);
        Due.is("behind 0 DAYS", x.behind(0, 0), y.town(0));
        y.days(17);
        Due.is("GLANCES", x.behind(17, 0), y.town(0));
        Due.is("VANISHED", x.behind(17, 1), y.town(1));
        Due.is("BUMPS", x.behind(17, 2), y.town(2));
        for (int k = 0; k < 5; k++) { Due.is("SIZED of " + k, x.behind(17, 3 + k), y.told(k, 2)); }
        Due.is("nobody is 5", x.behind(17, 8), BAD);
        Due.is("behind(100, 0) is fine", x.behind(100, 0) > 0 ? 1 : 0, 1);
        Due.is("behind(101, 0)", x.behind(101, 0), BAD);
        Due.is("behind(-1, 0)", x.behind(-1, 0), BAD);
        Due.is("behind(1, -1)", x.behind(1, -1), BAD);
        Due.is("behind(1, most)", x.behind(1, MOST), BAD);
        Due.is("nothing changes", x.count(1), 3);
        x.days(17);
        Due.is("z neither", x.count(8), y.count(8));
    }

    private static void vanishesAndBumps() {
        GlanceGrows x = still();
        x.one(0, 0, 200, 0, -1);
        x.one(2, 19, 200, 0, -1);
        x.one(2, 13, 201 - 2, 0, -1);
        x.one(5, 6, 1, 0, -1);
        Due.is("ONE by 2 a day", x.vanishes(0), 100);
        Due.is("SPY by 1 a day: the last day", x.vanishes(1), 200);
        Due.is("a day ahead", x.vanishes(2), 199);
        Due.is("KEEPER never", x.vanishes(3), NONE);
        x.set(3, 2, 0);
        Due.is("at once", x.vanishes(3), 0);
        GlanceGrows late = still();
        late.one(2, 0, 200, 0, -1);
        late.one(0, 2, 101, 0, -1);
        late.one(5, 1, 1, 0, -1);
        late.one(5, 7, 150, 0, -1);
        // 2 looks at the SPY on the first day, as it PULLS as much as 1, which grows; then at 1.
        Due.is("unseen from the second day on", late.behind(2, 3), 199);
        Due.is("gone behind 201 days is not by then", late.vanishes(0), NONE);
        late.set(0, 2, 199);
        late.set(1, 2, 100);
        Due.is("gone behind 200", late.vanishes(0), 200);
        Due.is("vanishes(4)", x.vanishes(4), BAD);
        Due.is("vanishes(-1)", x.vanishes(-1), BAD);
        Due.is("above CEILING at once", x.bumps(0), 0);
        x.set(0, 2, 120);
        Due.is("not above CEILING", x.bumps(0), NONE);
        x.moves(3, 1);
        x.set(0, 2, 20);
        Due.is("by 1 a day", x.bumps(0), 101);
        x.rule(0, 200);
        Due.is("nobody is above 200", x.bumps(0), NONE);
        Due.is("bumps(4)", x.bumps(4), BAD);
        Due.is("bumps(-1)", x.bumps(-1), BAD);
        Due.is("nothing changes", x.count(1) + x.town(2), 0);
    }

    private static void loud() {
        GlanceGrows x = still();
        x.one(0, 0, 20, 7, -1);
        x.one(0, 5, 10, 0, -1);
        x.one(0, 6, 41, 0, -1);
        // 1 looks at 0 (SIZED and NOISE) or at 2 (41), both 1 FAR: NOISE 25 does for 0, if not for less.
        Due.is("LOUD", x.loud(0, 1, 0), 25);
        Due.is("how tall", x.loud(0, 1, 1), 21);
        Due.is("NOISE stays", x.told(0, 3), 7);
        x.set(2, 2, 40);
        Due.is("as much is enough for the least number", x.loud(0, 1, 0), 20);
        x.set(2, 2, 71);
        Due.is("too tall: the least NOISE", x.loud(0, 1, 0), 0);
        Due.is("how tall then", x.loud(0, 1, 1), 18);
        Due.is("for 60", x.loud(0, 60, 1), 0);
        int[][] bad = {{3, 1, 0}, {-1, 1, 0}, {0, 0, 0}, {0, 61, 0}, {0, 1, 2}, {0, 1, -1}};
        for (int[] b : bad) { Due.is("loud, wrong", x.loud(b[0], b[1], b[2]), BAD); }
        Due.is("z stays", x.count(8), 1);
    }

    private static void loved() {
        GlanceGrows x = still();
        x.one(0, 0, 20, 0, -1);
        Due.is("no other one", x.loved(0, 1, 0), NONE);
        Due.is("no other one, how tall", x.loved(0, 1, 1), NONE);
        Due.is("wrong ahead of that", x.loved(0, 0, 0), BAD);
        x.one(5, 19, 10, 0, -1);
        Due.is("one other one", x.loved(0, 1, 0), 1);
        Due.is("the other's other one", x.loved(1, 1, 0), 0);
        x.one(0, 5, 10, 0, -1);
        Due.is("2 looks at 0 anyway: the least", x.loved(0, 2, 0), 1);
        x.one(0, 6, 50, 0, -1);
        Due.is("LOVED", x.loved(0, 2, 0), 2);
        Due.is("how tall", x.loved(0, 2, 1), 22);
        Due.is("nobody loves in earnest", x.told(2, 4), -1);
        Due.is("of several the least", x.loved(3, 2, 0), 0);
        Due.is("of several the least other one", x.loved(0, 60, 0), 2);
        int[][] bad = {{4, 1, 0}, {-1, 1, 0}, {0, 0, 0}, {0, 61, 0}, {0, 1, 2}, {0, 1, -1}};
        for (int[] b : bad) { Due.is("loved, wrong", x.loved(b[0], b[1], b[2]), BAD); }
    }

    private static void lovedByTheLast() {
        GlanceGrows x = still();
        x.one(0, 0, 20, 0, -1);
        x.one(0, 8, 20, 0, -1);
        x.one(0, 6, 30, 0, -1);
        x.one(0, 5, 20, 0, -1);
        Due.is("LOVED is the last", x.loved(0, 3, 0), 3);
        Due.is("how tall", x.loved(0, 3, 1), 23);
    }

    private static void becomes() {
        GlanceGrows x = still();
        x.one(4, 0, 20, 0, -1);
        Due.is("unseen a KEEPER is best", x.becomes(0, 3, 0), 5);
        Due.is("how tall", x.becomes(0, 3, 1), 20);
        x.one(0, 1, 20, 0, -1);
        Due.is("seen an ACTOR", x.becomes(0, 3, 0), 1);
        Due.is("how tall", x.becomes(0, 3, 1), 26);
        Due.is("KIND stays", x.told(0, 0), 4);
        x.set(0, 2, 200);
        Due.is("at 200 the least", x.becomes(0, 3, 0), 0);
        int[][] bad = {{2, 1, 0}, {-1, 1, 0}, {0, 0, 0}, {0, 61, 0}, {0, 1, 2}, {0, 1, -1}};
        for (int[] b : bad) { Due.is("becomes, wrong", x.becomes(b[0], b[1], b[2]), BAD); }
        Due.is("becomes(0, 60, 1)", x.becomes(0, 60, 1), 200);
    }

    private static void like() {
        GlanceGrows x = still();
        Due.is("MISSING ahead of nobody", x.like(3, 0), NOTHING);
        x.sheet(3, 1, 3);
        Due.is("nobody", x.like(3, 0), NONE);
        Due.is("like(4, 0)", x.like(4, 0), BAD);
        Due.is("like(-1, 0)", x.like(-1, 0), BAD);
        Due.is("like(3, 2)", x.like(3, 2), BAD);
        Due.is("like(3, -1)", x.like(3, -1), BAD);
        x.one(0, 0, 20, 0, -1);
        x.one(5, 6, 17, 0, -1);
        x.mark(3, 0, 18);
        x.mark(3, 1, 18);
        x.mark(3, 2, 18);
        // 0 is 20, 18, 16; 1 is 17, 17, 17.
        Due.is("LIKE", x.like(3, 0), 1);
        Due.is("differences", x.like(3, 1), 3);
        x.mark(3, 2, NONE);
        Due.is("of several the least", x.like(3, 0), 0);
        Due.is("differences of numbers alone", x.like(3, 1), 2);
        x.mark(3, 0, -99999);
        Due.is("far below", x.like(3, 1), 99999 + 17 + 1);
        x.sheet(2, 0, 0);
        Due.is("an empty row", x.like(2, 0), 0);
        Due.is("an empty row's differences", x.like(2, 1), 0);
        x.sheet(0, 0, 2);
        x.mark(0, 0, 20);
        x.mark(0, 1, 18);
        Due.is("place 0 is now", x.like(0, 0), 0);
        Due.is("no difference", x.like(0, 1), 0);
        Due.is("nothing changes", x.count(1), 0);
    }

    private static void feeAndFine() {
        GlanceGrows x = still();
        x.one(0, 17, 20, 31, -1);
        x.one(0, 12, 3, 0, -1);
        Due.is("days", x.days(2), 4);
        Due.is("fee() without a TEXT", x.fee(), 4);
        Due.is("fine(0) without a TEXT", x.fine(0), 31);
        Due.is("fine(2)", x.fine(2), BAD);
        Due.is("fine(-1)", x.fine(-1), BAD);
        Due.is("text", Due.text(x, "fee g*100+v"), 0);
        Due.is("fee()", x.fee(), 400);
        x.moves(0, 19);
        x.days(3);
        Due.is("fee() with VANISHED", x.fee(), 401);
        Due.is("text", Due.text(x, "fine s * 100 + p"), 1);
        Due.is("fine(0)", x.fine(0), 1619);
        Due.is("fine(1)", x.fine(1), 12);
        Due.is("fine(2) with a TEXT", x.fine(2), BAD);
        GlanceGrows y = new GlanceGrows();
        y.one(0, 9, 20, 31, -1);
        Due.text(y, "fine p");
        Due.is("fine by the first TEXT", y.fine(0), 9);
    }

    private static void tape() {
        GlanceGrows x = new GlanceGrows();
        Due.is("feed", x.feed(0x66656520, 0x37202020, 0x20202020), 12);
        Due.is("trim(13)", x.trim(13), BAD);
        Due.is("trim(-1)", x.trim(-1), BAD);
        Due.is("trim(12)", x.trim(12), 12);
        Due.is("trim(5)", x.trim(5), 5);
        Due.is("trim(6)", x.trim(6), BAD);
        Due.is("count(7)", x.count(7), 5);
        Due.is("text()", x.text(), 0);
        Due.is("it is used up", x.count(7), 0);
        Due.is("fee()", x.fee(), 7);
        Due.is("an empty tape", x.text(), -100);
        for (int i = 1; i <= 8; i++) { Due.is("feed " + i, x.feed(i, i, i), 12 * i); }
        Due.is("a ninth", x.feed(1, 1, 1), FULL);
        Due.is("96 bytes", x.count(7), 96);
        x.trim(85);
        Due.is("eleven free", x.feed(1, 1, 1), FULL);
        Due.is("85 stay", x.count(7), 85);
        x.trim(84);
        Due.is("twelve free", x.feed(1, 1, 1), 96);
        Due.is("a fault", x.text(), -100);
        Due.is("used up by a fault, too", x.count(7), 0);
        x.feed(0xe1e1e1e1, 0xffffffff, 0x80000000);
        Due.is("bytes above 127", x.text(), -100);
    }

    private static void textsAndFaults() {
        Object[][] due = {
            {"pull s", 0}, {"  pull   s  ", 0}, {"pull(s)", 0}, {"pull!s", 0}, {"pull 0007", 0}, {"fee g|v&1<2+3*4", 0},
            {"pull s+n*f/2-1", 0}, {"pull s<n=f", -108}, {"fine!(s>p)&1|0", 0},
            {"", -100}, {"   ", -103}, {"pul s", -100}, {"pulls", -100}, {"  Pull s", -102}, {"pull", -104}, {"pull  ", -106},
            {"pull5", -104}, {"pull 5s", -106}, {"pull s5", -106}, {"pull s 5", -107}, {"pull ss", -105}, {"pull g", -105},
            {"fee s", -104}, {"fee g v", -106}, {"fine n", -105}, {"fine s+", -107}, {"fine (s", -107}, {"fine (s ", -108},
            {"fine s)", -106}, {"fine ()", -106}, {"fine 12345", -105}, {"fine 00001", -105}, {"fine 1 2", -107},
            {"fine 1+12345", -107}, {"fine -1", -105}, {"fine +1", -105}, {"fine 1--1", -107}, {"fine 1<2<3", -108}, {"fine 1=2>3", -108},
            {"fine (1<2)<3", 0}, {"fine 1<2&2<3", 0}, {"fine 1<2|2<3", 0}, {"fine 1<2+2<3", -110}, {"fine !", -106},
            {"fine s!", -106}, {"fine s{", -106}, {"fine s\tp", -106}, {"fine s;", -106}, {"fee9", -103}, {"fee fee", -104},
            {"pull s&&n", -107}, {"pull s||n", -107}, {"pull s<=n", -107}, {"pull (s))", -108}, {"fine 1(2)", -106}, {"fine (1)(2)", -108},
            {"xull s", -100}, {"bee g", -100}, {"mine s", -100}, {"pulla", -100}, {"pullz s", -100}, {"pull`", -104}, {"pull {", -105},
            {"fine 1/", -107}, {"fine 1:", -106}, {"fine 9", 0}, {"fine (1|0)", 0}, {"fine (1&0|1)", 0}, {"fine (1)s", -108}, {"pull f*s", 0}, {"fine x", -105}, {"9", -100}, {"(", -100},
        };
        for (Object[] d : due) {
            GlanceGrows x = new GlanceGrows();
            Due.is("text '" + d[0] + "'", Due.text(x, (String) d[0]), (Integer) d[1]);
            Due.is("used up", x.count(7), 0);
            Due.is("TEXTS", x.count(5), (Integer) d[1] == 0 ? 1 : 0);
        }
        GlanceGrows x = new GlanceGrows();
        x.feed(0x70756c6c, 0x20732020, 0x20202020);
        Due.is("blanks at the end of the tape", x.text(), 0);
        Due.is("textTold KEY", x.textTold(0, 0), 0);
        Due.is("textTold how many", x.textTold(0, 1), 1);
        Due.is("another", Due.text(x, "fine 12+(s-!p)*4|0&s"), 1);
        Due.is("its KEY", x.textTold(1, 0), 2);
        Due.is("how many", x.textTold(1, 1), 6);
        Due.is("another", Due.text(x, "fee g"), 2);
        Due.is("its KEY", x.textTold(2, 0), 1);
        Due.is("why(0)", x.why(0), 0);
        Due.is("why(1)", x.why(1), 2);
        Due.is("why(2)", x.why(2), 1);
        Due.is("another", Due.text(x, "pull n"), 3);
        Due.is("the last counts", x.why(0), 3);
        Due.is("a fault", Due.text(x, "pull"), -104);
        Due.is("the last still counts", x.why(0), 3);
        Due.is("why(3)", x.why(3), BAD);
        Due.is("why(-1)", x.why(-1), BAD);
        Due.is("a fault with NUMBERS ahead", Due.text(x, "fee 7+8*9+"), -110);
        Due.is("a fault within brackets", Due.text(x, "fee ((7+!!!8"), -112);
        Due.is("then a TEXT", Due.text(x, "fee 5"), 4);
        Due.is("it has one NUMBER", x.textTold(4, 1), 1);
        Due.is("and gives it", x.fee(), 5);
        x = new GlanceGrows();
        for (int i = 0; i < 4; i++) { Due.text(x, "fee 5"); }
        Due.is("textTold(4, 0)", x.textTold(4, 0), BAD);
        Due.is("textTold(-1, 0)", x.textTold(-1, 0), BAD);
        Due.is("textTold(0, 2)", x.textTold(0, 2), BAD);
        Due.is("textTold(0, -1)", x.textTold(0, -1), BAD);
    }

    private static void faultsOfDepth() {
        GlanceGrows x = new GlanceGrows();
        String eight = "((((((((", closed = "))))))))", nots = "!!!!!!!!";
        Due.is("eight (", Due.text(x, "fee " + eight + "7" + closed), 0);
        Due.is("nine (", Due.text(x, "fee " + eight + "(7)" + closed), -112);
        Due.is("eight !", Due.text(x, "fee " + nots + "7"), 1);
        Due.is("their value", x.fee(), 1);
        Due.is("nine !", Due.text(x, "fee " + nots + "!7"), -112);
        Due.is("eight of both", Due.text(x, "fee !(!(!(!(!(!(!(!(7" + closed), 2);
        Due.is("the ninth ! through (", Due.text(x, "fee !(!(!(!(!(!(!(!(!7" + closed), -120);
        Due.is("the ninth ( through !", Due.text(x, "fee !(!(!(!(!(!(!(!((7)" + closed), -120);
        Due.is("! and then others", Due.text(x, "fee " + nots + "7+" + nots + "7&" + nots + "(" + "7)"), 3);
        Due.is("( and then others", Due.text(x, "fee " + eight + "7" + closed + "+" + eight + "7" + closed), 4);
        Due.is("a ! within that is over", Due.text(x, "fee !!!!(!!!!1+!!!!2)"), 5);
        Due.is("a ! too many there", Due.text(x, "fee !!!!(!!!!1+!!!!!2)"), -119);
    }

    private static void textsWork() {
        Object[][] due = {
            {"1+2*3", 7}, {"(1+2)*3", 9}, {"10-4-3", 3}, {"100/7/2", 7}, {"7/0", 0}, {"0-7/2", -3}, {"(0-7)/2", -3}, {"2*3/4", 1},
            {"9/2*2", 8}, {"!0", 1}, {"!5", 0}, {"!!5", 1}, {"!0+1", 2}, {"!(0+1)", 0}, {"5&3", 1}, {"5&0", 0}, {"0|7", 1}, {"0|0", 0},
            {"1|0&0", 1}, {"1<2", 1}, {"2<1", 0}, {"2>1", 1}, {"2=2", 1}, {"2=3", 0}, {"2<2", 0}, {"2>2", 0}, {"1>2", 0}, {"(0|2)*7", 7}, {"0&1|1", 1}, {"1+1=2", 1}, {"1=1+2", 0}, {"(2>1)+1", 2},
            {"5", 5}, {"0005", 5}, {"1-2<0&3", 1}, {"1&2=2", 1}, {"9999*9999", 99980001}, {"9999*9999*9999", 9999 * 9999 * 9999},
            {"(0-8*8*8*8*8*8*8*8*8*8*2)/(0-1)", LEAST},
        };
        for (Object[] d : due) {
            GlanceGrows x = new GlanceGrows();
            Due.is("text " + d[0], Due.text(x, "fee " + d[0]), 0);
            Due.is("fee " + d[0], x.fee(), (Integer) d[1]);
        }
    }

    private static void fullTexts() {
        GlanceGrows x = new GlanceGrows();
        for (int i = 0; i < 14; i++) { Due.is("text " + i, Due.text(x, "fee " + i), i); }
        Due.is("a fifteenth", Due.text(x, "fee 99"), FULL);
        Due.is("used up by FULL, too", x.count(7), 0);
        Due.is("fee()", x.fee(), 13);
        Due.is("a fault stands ahead of FULL", Due.text(x, "fee +"), -104);
        Due.is("TEXTS", x.count(5), 14);
        Due.is("textTold(13, 1)", x.textTold(13, 1), 1);
        Due.is("textTold(14, 1)", x.textTold(14, 1), BAD);
    }

    private static void pullText() {
        GlanceGrows x = still();
        x.one(0, 0, 10, 0, -1);
        x.one(0, 4, 50, 9, -1);
        x.one(0, 5, 60, 0, -1);
        Due.is("without a TEXT", x.looks(0), 2);
        Due.text(x, "pull n");
        Due.is("by n", x.looks(0), 1);
        Due.text(x, "pull s");
        Due.is("by s", x.looks(0), 2);
        Due.text(x, "pull f");
        Due.is("by f", x.looks(0), 1);
        x.moves(1, 1);
        x.moves(2, 10);
        Due.is("by f, in the column", x.looks(0), 2);
        x.moves(0, 13);
        x.moves(1, 11);
        Due.is("2 FAR and 3 FAR", x.looks(0), 2);
        Due.text(x, "pull (f=3)*100+(f=2)*101");
        Due.is("FAR as it is", x.looks(0), 1);
        x.moves(0, 16);
        Due.is("in another row", x.sees(0), 0b10);
        Due.text(x, "pull f=1");
        x.moves(0, 12);
        Due.is("1 FAR", x.looks(0), 1);
        x.moves(0, 0);
        x.moves(1, 4);
        x.moves(2, 5);
        Due.text(x, "pull 0-f");
        Due.is("held at 0: the least", x.looks(0), 1);
        Due.text(x, "pull s*10");
        Due.is("held at 499: the least", x.looks(0), 1);
        Due.text(x, "pull 498+(s=60)");
        Due.is("498 and 499", x.looks(0), 2);
        Due.text(x, "pull 499+(s=60)");
        Due.is("499 and 500, held", x.looks(0), 1);
        Due.text(x, "pull s*9+n");
        Due.is("459 below 499", x.looks(0), 2);
        x.turns(1, 1);
        Due.is("459 and 15 below 499", x.looks(0), 2);
        x.set(0, 4, 1);
        Due.is("and 40 above", x.looks(0), 1);
        Due.is("moved in thought", x.behind(1, 4), 52);
    }

    private static void sheetAndMark() {
        GlanceGrows x = new GlanceGrows();
        Due.is("sheet(0, 0, 24)", x.sheet(0, 0, 24), 24);
        Due.is("sheet(1, 1, 0)", x.sheet(1, 1, 0), 0);
        Due.is("sheet(0, 0, 25)", x.sheet(0, 0, 25), BAD);
        Due.is("sheet(0, 1, -1)", x.sheet(0, 1, -1), SIZE);
        Due.is("sheet(0, 2, 1)", x.sheet(0, 2, 1), BAD);
        Due.is("sheet(0, 2, -1)", x.sheet(0, 2, -1), BAD);
        Due.is("sheet(0, -2, 1)", x.sheet(0, -2, 1), BAD);
        Due.is("sheet(4, 0, 1)", x.sheet(4, 0, 1), BAD);
        Due.is("sheet(-1, 0, -1)", x.sheet(-1, 0, -1), BAD);
        Due.is("mark the last", x.mark(0, 23, 5), 1);
        Due.is("mark(0, 24, 5)", x.mark(0, 24, 5), INDEX);
        Due.is("mark(0, -1, 5)", x.mark(0, -1, 5), INDEX);
        Due.is("mark(1, 0, 5)", x.mark(1, 0, 5), INDEX);
        Due.is("mark(2, 0, 5)", x.mark(2, 0, 5), NOTHING);
        Due.is("mark(4, 0, 5)", x.mark(4, 0, 5), BAD);
        Due.is("mark(-1, 0, 5)", x.mark(-1, 0, 5), BAD);
        Due.is("NONE in shorts", x.mark(0, 0, NONE), KIND);
        Due.is("NONE in shorts, no such place", x.mark(0, 24, NONE), INDEX);
        x.sheet(1, 1, 2);
        Due.is("a float at its edge", x.mark(1, 0, 99999), 1);
        Due.is("a float at its other edge", x.mark(1, 1, -99999), 1);
        Due.is("a float beyond", x.mark(1, 0, 100000), BAD);
        Due.is("a float beyond below", x.mark(1, 0, -100000), BAD);
        Due.is("a float beyond, no such place", x.mark(1, 2, 100000), INDEX);
        x.mark(0, 0, 0x12348765);
        x.mark(0, 1, 40000);
        x.lay(0, 2, 0);
        x.lay(1, 2, 1);
        Due.is("the lowest 16 bits", x.item(0, 0), (short) 0x8765);
        Due.is("40000 in 16 bits", x.item(0, 1), 40000 - 65536);
        Due.is("place 2", x.item(0, 2), 0);
        Due.is("place 23", x.item(0, 23), 5);
        Due.is("99999", x.item(1, 0), 99999);
        Due.is("-99999", x.item(1, 1), -99999);
        Due.is("sheet(0, -1, 99)", x.sheet(0, -1, 99), 0);
        Due.is("MISSING then", x.mark(0, 0, 1), NOTHING);
        Due.is("sheet(0, -1, -99)", x.sheet(0, -1, -99), 0);
        x.sheet(0, 0, 24);
        x.lay(0, 2, 0);
        Due.is("all 0 again", x.item(0, 23), 0);
        Due.is("the first, too", x.item(0, 0), 0);
    }

    private static void pour() {
        GlanceGrows x = new GlanceGrows();
        Due.is("pour(4)", x.pour(4), BAD);
        Due.is("pour(-1)", x.pour(-1), BAD);
        Due.is("pour(0)", x.pour(0), NOTHING);
        x.sheet(0, 1, 4);
        Due.is("on nobody", x.pour(0), 0);
        for (int i = 0; i < 5; i++) { x.one(0, i, 50, 0, 0); }
        x.mark(0, 0, 201);
        x.mark(0, 1, NONE);
        x.mark(0, 2, -3);
        x.mark(0, 3, 50);
        Due.is("pour", x.pour(0), 2);
        int[] due = {200, 50, 0, 50, 50};
        for (int i = 0; i < 5; i++) { Due.is("SIZED of " + i, x.told(i, 2), due[i]); }
        Due.is("pour again", x.pour(0), 0);
        Due.is("VANISHED by nothing", x.town(1) + x.town(2), 0);
    }

    private static void reads() {
        GlanceGrows x = new GlanceGrows();
        x.one(0, 7, 1, 0, 0);
        x.one(0, 3, 1, 0, 0);
        Due.is("reads(4)", x.reads(4), BAD);
        Due.is("reads(-1)", x.reads(-1), BAD);
        Due.is("reads(1)", x.reads(1), NOTHING);
        x.sheet(1, 1, 3);
        Due.is("the first", x.reads(1), 0);
        x.mark(1, 0, 7);
        Due.is("the second", x.reads(1), 1);
        x.mark(1, 1, 3);
        Due.is("beyond the PEOPLE", x.reads(1), 2);
        x.mark(1, 2, NONE);
        Due.is("numbers alone", x.reads(1), NONE);
        x.mark(1, 0, NONE);
        Due.is("numbers alone again", x.reads(1), NONE);
        x.sheet(1, 0, 0);
        Due.is("an empty row", x.reads(1), NONE);
    }

    private static void copy() {
        GlanceGrows x = new GlanceGrows();
        Due.is("MISSING", x.copy(0, 0, 1, 0, 0), NOTHING);
        Due.is("copy to 4", x.copy(0, 0, 4, 0, 0), BAD);
        Due.is("copy from -1", x.copy(-1, 0, 1, 0, 0), BAD);
        Due.is("copy from 4", x.copy(4, 0, 1, 0, 0), BAD);
        Due.is("copy to -1", x.copy(1, 0, -1, 0, 0), BAD);
        x.sheet(0, 1, 4);
        x.sheet(1, 1, 6);
        x.sheet(2, 0, 4);
        Due.is("to MISSING", x.copy(0, 0, 3, 0, 0), NOTHING);
        Due.is("from MISSING", x.copy(3, 0, 0, 0, 0), NOTHING);
        Due.is("other sorts", x.copy(0, 0, 2, 0, 0), KIND);
        Due.is("other sorts ahead of no place", x.copy(0, 99, 2, 0, 0), KIND);
        for (int i = 0; i < 4; i++) { x.mark(0, i, i == 3 ? NONE : 10 + i); }
        Due.is("four to 2", x.copy(0, 0, 1, 2, 4), 4);
        int[] due = {0, 0, 10, 11, 12, KIND};
        x.lay(0, 2, 1);
        for (int i = 0; i < 6; i++) { Due.is("place " + i, x.item(0, i), due[i]); }
        Due.is("within itself", x.copy(1, 2, 1, 3, 3), 3);
        int[] then = {0, 0, 10, 10, 11, 12};
        x.lay(0, 2, 1);
        for (int i = 0; i < 6; i++) { Due.is("place " + i, x.item(0, i), then[i]); }
        Due.is("within itself, back", x.copy(1, 3, 1, 0, 3), 3);
        int[] last = {10, 11, 12, 10, 11, 12};
        x.lay(0, 2, 1);
        for (int i = 0; i < 6; i++) { Due.is("place " + i, x.item(0, i), last[i]); }
        Due.is("none at the end", x.copy(0, 4, 1, 6, 0), 0);
        int[][] wrong = {{-1, 0, 1}, {0, -1, 1}, {0, 0, -1}, {4, 0, 1}, {0, 6, 1}, {5, 0, 0}, {0, 7, 0}, {1, 0, 4}, {0, 3, 4}, {1, 1, MOST}, {MOST, MOST, MOST}};
        for (int[] w : wrong) { Due.is("no such place", x.copy(0, w[0], 1, w[1], w[2]), INDEX); }
    }

    private static void slots() {
        GlanceGrows x = new GlanceGrows();
        x.one(3, 0, 40, 0, 0);
        x.sheet(0, 0, 2);
        x.mark(0, 1, 9);
        int[][] bad = {{5, 0, 0}, {-1, 0, 0}, {0, 4, 0}, {0, -1, 0}, {0, 1, 1}, {0, 1, -1}, {0, 2, 4}, {0, 2, -1}};
        for (int[] b : bad) { Due.is("lay, wrong", x.lay(b[0], b[1], b[2]), BAD); }
        Due.is("a MISSING sheet", x.lay(0, 2, 1), NOTHING);
        Due.is("lay ONE", x.lay(0, 1, 0), 0);
        Due.is("ask as KING", x.ask(0, 3), 90);
        Due.is("ask as ACTOR", x.ask(0, 1), 90);
        Due.is("ask as ONE", x.ask(0, 0), 90);
        Due.is("ask as SPY", x.ask(0, 2), KIND);
        Due.is("ask as 6", x.ask(0, 6), BAD);
        Due.is("ask as -1", x.ask(0, -1), BAD);
        Due.is("ask(5, 0)", x.ask(5, 0), BAD);
        Due.is("ask(-1, 0)", x.ask(-1, 0), BAD);
        Due.is("ask(1, 0)", x.ask(1, 0), NOTHING);
        x.set(0, 2, 1);
        x.turns(0, 2);
        Due.is("as it was then", x.ask(0, 3), 90);
        Due.is("item of ONE", x.item(0, 0), KIND);
        Due.is("rest of ONE", x.rest(0, 1), KIND);
        Due.is("rest of ONE by 0", x.rest(0, 0), KIND);
        Due.is("lay a SHEET", x.lay(0, 2, 0), 1);
        x.mark(0, 1, 8);
        Due.is("as it was", x.item(0, 1), 9);
        Due.is("item(0, 2)", x.item(0, 2), INDEX);
        Due.is("item(0, -1)", x.item(0, -1), INDEX);
        Due.is("item(5, 0)", x.item(5, 0), BAD);
        Due.is("item(-1, 0)", x.item(-1, 0), BAD);
        Due.is("item(4, 9)", x.item(4, 9), NOTHING);
        x.sheet(0, -1, 0);
        Due.is("a row of its own", x.item(0, 1), 9);
        Due.is("ask a SHEET", x.ask(0, 0), KIND);
        Due.is("lay a number", x.lay(0, 3, -17), 2);
        Due.is("rest(0, 5)", x.rest(0, 5), -2);
        Due.is("rest(0, -5)", x.rest(0, -5), -2);
        Due.is("rest(0, 0)", x.rest(0, 0), NO);
        Due.is("rest(5, 1)", x.rest(5, 1), BAD);
        Due.is("rest(-1, 0)", x.rest(-1, 0), BAD);
        Due.is("rest(4, 0)", x.rest(4, 0), NOTHING);
        Due.is("ask a number", x.ask(0, 0), KIND);
        Due.is("item of a number", x.item(0, 0), KIND);
        Due.is("lay the least number", x.lay(0, 3, LEAST), 3);
        Due.is("its rest by -1", x.rest(0, -1), 0);
        Due.is("lay nothing", x.lay(0, 0, 99), 3);
        Due.is("nothing then", x.rest(0, 1), NOTHING);
        Due.is("nothing held", x.lay(0, 0, -5), 0);
        x.sheet(3, 0, 1);
        Due.is("the last SHEET in the last SLOT", x.lay(4, 2, 3), 0);
        Due.is("ask it", x.ask(4, 0), KIND);
        x.turns(0, 5);
        Due.is("a KEEPER in the last SLOT", x.lay(4, 1, 0), 2);
        Due.is("ask as KEEPER", x.ask(4, 5), 3);
    }

    private static GlanceGrows pair() {
        GlanceGrows x = still();
        x.one(0, 0, 9, 9, 1);
        x.one(0, 1, 9, 9, 0);
        x.days(1);
        return x;
    }

    private static int tells(GlanceGrows x, int n, int... numbers) {
        for (int v : numbers) { x.tell(v); }
        return x.check(n);
    }

    private static void check() {
        GlanceGrows x = pair();
        Due.is("without an IMAGE", tells(x, 1, 4, 22), NO);
        Due.is("none wait then", x.count(6), 0);
        x.keep();
        Due.is("one DAY", tells(x, 1, 4, 22), 0);
        Due.is("two DAYS", tells(x, 2, 4, 22, 6, 24), 0);
        Due.is("nothing told", tells(x, 2), 1);
        Due.is("one missing", tells(x, 2, 4, 22, 6), 4);
        Due.is("one too many", tells(x, 1, 4, 22, 6), 3);
        Due.is("more too many", tells(x, 1, 4, 22, 6, 24), 3);
        Due.is("the first is not", tells(x, 1, 3, 22), 1);
        Due.is("the second is not", tells(x, 1, 4, 21), 2);
        Due.is("the fourth is not", tells(x, 2, 4, 22, 6, 25), 4);
        Due.is("check(0)", tells(x, 0, 4, 22), BAD);
        Due.is("none wait then", x.count(6), 0);
        Due.is("check(31)", tells(x, 31, 4, 22), BAD);
        x.days(5);
        x.turns(0, 1);
        Due.is("by THE IMAGE", tells(x, 1, 4, 22), 0);
        // 2 GLANCES and 2 SIZED more each day: day d tells 2 and 2d, 20 and 2d.
        for (int d = 1; d <= 30; d++) {
            Due.is("tell GLANCES", x.tell(2 + 2 * d), 2 * d - 1);
            Due.is("tell SIZED", x.tell(20 + 2 * d), 2 * d);
        }
        Due.is("a 61st", x.tell(0), FULL);
        Due.is("60 wait", x.count(6), 60);
        Due.is("30 DAYS", x.check(30), 0);
        Due.is("THE DAY stays", x.count(1), 6);
    }

    private static void checkAtTheLastDay() {
        GlanceGrows x = still();
        x.one(5, 0, 9, 0, -1);
        x.one(5, 1, 9, 0, -1);
        for (int i = 0; i < 99; i++) { x.days(100); }
        x.days(97);
        x.keep();
        int g = x.town(0);
        Due.is("two DAYS are left of five", tells(x, 5, g + 2, 18, g + 4, 18), 0);
        Due.is("a third is too many", tells(x, 5, g + 2, 18, g + 4, 18, g + 6, 18), 5);
        x.days(5);
        x.keep();
        Due.is("no DAYS are left", tells(x, 5), 0);
        Due.is("all are too many", tells(x, 5, 0), 1);
    }

    /** Eight KEEPERS, the most there can be. */
    private static void fullTown() {
        GlanceGrows x = still();
        int[] places = {0, 1, 7, 8, 14, 9, 15, 16};
        for (int i = 0; i < 8; i++) { Due.is("one more", x.one(5, places[i], 10 + i, 0, -1), i); }
        Due.is("SIZED together", x.town(3), 108);
        Due.is("all look", x.days(1), 8);
        Due.is("11 SIZED, 1 FAR draws more than 16 SIZED, 3 FAR", x.looks(0), 1);
        Due.is("17 SIZED, 3 FAR draws more than 10 SIZED, 1 FAR", x.looks(1), 7);
        Due.is("those at 7", x.eyes(7), 0b1000010);
        Due.is("behind", x.behind(2, 10), 17);
        Due.is("curtain", x.curtain(7, 1), 1);
        Due.is("loved by the least", x.loved(7, 3, 0), 0);
        x.sheet(0, 0, 2);
        x.mark(0, 0, 17);
        x.mark(0, 1, 17);
        Due.is("like the last", x.like(0, 0), 7);
        StringBuilder all = new StringBuilder("fine 1");
        while (all.length() < 96) { all.append("+1"); }
        Due.is("96 bytes of a TEXT", Due.text(x, all.toString()), 0);
        Due.is("how many NUMBERS", x.textTold(0, 1), 46);
        Due.is("what it gives", x.fine(7), 46);
        x.keep();
        Due.is("check", tells(x, 1, 16, 108), 0);
        Due.is("back()", x.back(), 8);
    }

    private static void images() {
        GlanceGrows x = new GlanceGrows();
        Due.is("back without an IMAGE", x.back(), NO);
        x.one(1, 0, 50, 9, 1);
        x.one(0, 1, 60, 9, 0);
        x.screen(9, 1);
        x.rule(0, 55);
        x.rule(1, 30);
        x.rule(2, 40);
        x.days(3);
        x.set(1, 2, 1);
        Due.text(x, "fee g+1000");
        x.sheet(0, 0, 3);
        x.lay(0, 3, 17);
        int[] town = new int[5], count = new int[9];
        for (int i = 0; i < 5; i++) { town[i] = x.town(i); }
        for (int i = 0; i < 9; i++) { count[i] = x.count(i); }
        int place = x.told(0, 1), noise = x.told(0, 3);
        Due.is("keep()", x.keep(), 2);
        for (int again = 0; again < 2; again++) {
            x.deal(4);
            x.screen(9, 0);
            for (int i = 0; i < 3; i++) { x.rule(i, 1); }
            x.days(9);
            x.turns(0, 5);
            x.set(0, 2, 3);
            x.set(0, 3, 4);
            x.set(0, 4, 5);
            Due.is("another TEXT", Due.text(x, "fee v"), 1);
            Due.is("one more", Due.text(x, "pull s"), 2);
            x.sheet(0, 0, 5);
            x.lay(0, 3, 18);
            x.tell(5);
            x.feed(1, 2, 3);
            Due.is("back()", x.back(), 2);
            for (int i = 0; i < 5; i++) { Due.is("town(" + i + ") is back", x.town(i), town[i]); }
            for (int i = 0; i < 6; i++) { Due.is("count(" + i + ") is back", x.count(i), count[i]); }
            Due.is("z is back", x.count(8), count[8]);
            Due.is("KIND is back", x.told(0, 0), 1);
            Due.is("PLACE is back", x.told(0, 1), place);
            Due.is("whose it is is back", x.at(place), 0);
            Due.is("NOISE is back", x.told(0, 3), noise);
            Due.is("LOVES is back", x.told(0, 4), 1);
            Due.is("why(1) is back", x.why(1), 0);
            Due.is("why(0) is back", x.why(0), NONE);
            Due.is("fee() is back", x.fee(), 1000 + town[0]);
            Due.is("numbers wait on", x.count(6), 1 + again);
            Due.is("THE TAPE stays", x.count(7), 12);
            Due.is("the SHEET stays", x.mark(0, 4, 1), 1);
            Due.is("the SLOT stays", x.rest(0, 100), 18);
            x.trim(0);
        }
        Due.is("another IMAGE", x.deal(1) + x.keep(), 4);
        x.deal(2);
        Due.is("the last is the one", x.back(), 3);
    }

    private static void count() {
        GlanceGrows x = new GlanceGrows();
        x.seed(-5);
        x.tell(1);
        x.feed(1, 1, 1);
        Due.is("count(6)", x.count(6), 1);
        Due.is("count(7)", x.count(7), 12);
        Due.is("count(8)", x.count(8), -5);
        Due.is("count(9)", x.count(9), BAD);
        Due.is("count(-1)", x.count(-1), BAD);
    }
}
