import java.nio.file.Path;

/** Each sentence ahead of the promises that names an edge has a test of its own here, worked out by hand. */
public final class EdgesOfTermsTest {
    private static final int BAD = GlanceGrows.BAD, NO = GlanceGrows.NO, FULL = GlanceGrows.FULL, NONE = GlanceGrows.NONE,
            NOTHING = GlanceGrows.NOTHING, KIND = GlanceGrows.KIND, INDEX = GlanceGrows.INDEX, SIZE = GlanceGrows.SIZE;
    private static final int LEAST = Integer.MIN_VALUE, MOST = Integer.MAX_VALUE;

    public static void main(String[] args) throws Exception {
        town();
        people();
        seeing();
        pulling();
        growing();
        aDay();
        draws();
        peopleDrawn();
        bestPlaces();
        whatWillBe();
        tape();
        textsGoOn();
        textsGive();
        sheetsAndSlots();
        images();
        Due.sentencesStand(Path.of("../shared/DOC.md"));
        Due.ends();
    }

    private static GlanceGrows still() {
        GlanceGrows x = new GlanceGrows();
        x.rule(1, 0);
        x.rule(2, 0);
        return x;
    }

    /** Each is KIND, PLACE, SIZED, NOISE, LOVES. */
    private static GlanceGrows still(int[]... people) {
        GlanceGrows x = still();
        for (int[] p : people) { x.one(p[0], p[1], p[2], p[3], p[4]); }
        return x;
    }

    private static int next(int z) { return z * 1103515245 + 12345; }

    private static int nth(int seed, int n) {
        int z = seed;
        for (int i = 0; i < n; i++) { z = next(z); }
        return z;
    }

    private static int rest(int seed, int n, int by) { return (nth(seed, n) >>> 8) % by; }

    // ---- 1

    private static void town() {
        placesInRows();
        screensNoneAtFirst();
        rules();
        countersAtFirst();
        lastDay();
    }

    private static void placesInRows() {
        Due.sentence(0, "THE TOWN has PLACES 0 .. 19, five in a row");
        GlanceGrows x = still();
        for (int p : new int[] {-1, 20, LEAST, MOST}) { Due.is("at(" + p + ")", x.at(p), BAD); }
        Due.is("at(0)", x.at(0), NONE);
        Due.is("at(19)", x.at(19), NONE);
        for (int first = 0; first < 20; first++) {
            int sees = 0;
            for (int other = 0; other < 20; other++) {
                if (other == first) { continue; }
                x = still(new int[] {0, first, 9, 0, -1}, new int[] {0, other, 9, 0, -1});
                sees += x.sees(0) == 2 && x.sees(1) == 1 ? 1 : x.sees(0) == 0 && x.sees(1) == 0 ? 0 : 100;
            }
            Due.is("place " + first + " sees four in its row and three in its column", sees, 7);
        }
        x = still(new int[] {0, 4, 9, 0, -1}, new int[] {0, 5, 9, 0, -1}, new int[] {0, 9, 9, 0, -1}, new int[] {0, 10, 9, 0, -1});
        Due.is("4 does not see 5, but 9", x.sees(0), 0b0100);
        Due.is("10 does not see 9, but 5", x.sees(3), 0b0010);
    }

    private static void screensNoneAtFirst() {
        Due.sentence(0, "each may have a SCREEN (none at first)");
        GlanceGrows x = still();
        Due.is("none at first", x.town(4), 0);
        for (int p = 0; p < 20; p++) { Due.is("screen(" + p + ", 1)", x.screen(p, 1), 0); }
        Due.is("all have one", x.town(4), 0xFFFFF);
        for (int p = 0; p < 20; p++) { Due.is("screen(" + p + ", 0)", x.screen(p, 0), 1); }
        Due.is("none again", x.town(4), 0);
    }

    private static void rules() {
        Due.sentence(0, "CEILING 0 .. 200 (120 at first), MOVES 0 .. 100 (20), NOISES 0 .. 100 (20)");
        int[] first = {120, 20, 20}, most = {200, 100, 100};
        for (int what = 0; what < 3; what++) {
            GlanceGrows x = new GlanceGrows();
            Due.is("at first", x.count(2 + what), first[what]);
            for (int v : new int[] {-1, most[what] + 1, LEAST, MOST}) { Due.is("rule(" + what + ", " + v + ")", x.rule(what, v), BAD); }
            Due.is("it stays", x.count(2 + what), first[what]);
            Due.is("the least", x.rule(what, 0), first[what]);
            Due.is("the most", x.rule(what, most[what]), 0);
            Due.is("it is the most", x.count(2 + what), most[what]);
        }
    }

    private static void countersAtFirst() {
        Due.sentence(0, "GLANCES, VANISHED, BUMPS are 0 at first");
        GlanceGrows x = new GlanceGrows();
        for (int what = 0; what < 3; what++) { Due.is("town(" + what + ")", x.town(what), 0); }
        x.one(0, 0, 0, 0, -1);
        x.one(0, 1, 200, 0, -1);
        for (int what = 0; what < 3; what++) { Due.is("town(" + what + ") by coming alone", x.town(what), 0); }
    }

    private static void lastDay() {
        Due.sentence(0, "THE DAY is 0 at first, 9999 at most");
        GlanceGrows x = still(new int[] {5, 0, 9, 0, -1}, new int[] {5, 1, 9, 0, -1});
        Due.is("0 at first", x.count(1), 0);
        for (int i = 0; i < 99; i++) { x.days(100); }
        Due.is("98 DAYS", x.days(98), 196);
        Due.is("9998", x.count(1), 9998);
        Due.is("one of two", x.days(2), 2);
        Due.is("9999", x.count(1), 9999);
        int z = x.count(8);
        Due.is("none of 100", x.days(100), 0);
        Due.is("9999 still", x.count(1), 9999);
        Due.is("z stays", x.count(8), z);
        Due.is("GLANCES stay", x.town(0), 2 * 9999);
    }

    private static void people() {
        eightPeople();
        placeOfOnesOwn();
        values();
        lovesThereOrNot();
        kinds();
    }

    private static void eightPeople() {
        Due.sentence(0, "PEOPLE, 8 at most, numbered from 0");
        GlanceGrows x = new GlanceGrows();
        for (int i = 0; i < 8; i++) {
            Due.is("told(" + i + ", 0) ahead of it", x.told(i, 0), BAD);
            Due.is("number " + i, x.one(0, 19 - i, 9, 0, -1), i);
            Due.is("at its PLACE", x.at(19 - i), i);
        }
        Due.is("a ninth", x.one(0, 0, 9, 0, -1), FULL);
        Due.is("its PLACE", x.at(0), NONE);
        Due.is("told(8, 0)", x.told(8, 0), BAD);
        Due.is("told(-1, 0)", x.told(-1, 0), BAD);
        Due.is("eight", x.count(0), 8);
    }

    private static void placeOfOnesOwn() {
        Due.sentence(0, "PLACE (one of its own, without a SCREEN)");
        GlanceGrows x = still(new int[] {0, 7, 9, 0, -1});
        x.screen(8, 1);
        Due.is("another one there", x.one(0, 7, 9, 0, -1), NO);
        Due.is("one on a SCREEN", x.one(0, 8, 9, 0, -1), NO);
        Due.is("a SCREEN there", x.screen(7, 1), NO);
        Due.is("nobody came", x.count(0), 1);
        Due.is("no SCREEN came", x.town(4), 1 << 8);
    }

    private static void values() {
        Due.sentence(0, "SIZED 0 .. 200 (how tall), NOISE 0 .. 50, LOVES (a number of the PEOPLE, there or not; -1 .. 7; -1: nobody)");
        int[] least = {0, 0, -1}, most = {200, 50, 7};
        for (int k = 0; k < 3; k++) {
            for (int v : new int[] {least[k] - 1, most[k] + 1, LEAST, MOST}) {
                GlanceGrows x = new GlanceGrows();
                Due.is("one with " + v, x.one(0, 0, k == 0 ? v : 0, k == 1 ? v : 0, k == 2 ? v : 0), BAD);
                x.one(0, 0, 5, 5, 5);
                Due.is("set to " + v, x.set(0, 2 + k, v), BAD);
                Due.is("it stays", x.told(0, 2 + k), 5);
            }
            for (int v : new int[] {least[k], most[k]}) {
                GlanceGrows x = new GlanceGrows();
                Due.is("one with " + v, x.one(0, 0, k == 0 ? v : 0, k == 1 ? v : 0, k == 2 ? v : 0), 0);
                Due.is("it has it", x.told(0, 2 + k), v);
                x.one(0, 1, 5, 5, 5);
                Due.is("set to " + v, x.set(1, 2 + k, v), 5);
                Due.is("it has it", x.told(1, 2 + k), v);
            }
        }
    }

    private static void lovesThereOrNot() {
        Due.sentence(0, "a number of the PEOPLE, there or not");
        GlanceGrows x = still(new int[] {0, 0, 9, 0, 2}, new int[] {0, 1, 50, 0, 1});
        Due.is("LOVES one who is not there", x.looks(0), 1);
        Due.is("LOVES itself", x.looks(1), 0);
        x.one(0, 5, 11, 0, -1);
        Due.is("LOVES one who came: 48 above 47", x.looks(0), 2);
        x.set(0, 4, 7);
        Due.is("LOVES the last number there can be", x.looks(0), 1);
    }

    private static void kinds() {
        Due.sentence(0, "of KINDS: 0 ONE; 1 ACTOR, 2 SPY, 5 KEEPER, under ONE; 3 KING, under ACTOR; 4 MOUSE, under SPY (all are PEOPLE)");
        String[] under = {"0", "01", "02", "013", "024", "05"};
        for (int kind = 0; kind < 6; kind++) {
            GlanceGrows x = new GlanceGrows();
            Due.is("one of KIND " + kind, x.one(kind, 0, 44, 0, 0), 0);
            for (int above = 0; above < 6; above++) {
                Due.is(kind + " as " + above, x.as(0, above), under[kind].indexOf('0' + above) >= 0 ? 44 : KIND);
            }
        }
        GlanceGrows x = new GlanceGrows();
        for (int kind : new int[] {-1, 6, LEAST, MOST}) { Due.is("one of KIND " + kind, x.one(kind, 0, 44, 0, 0), BAD); }
    }

    private static void seeing() {
        sameRowOrColumn();
        screenBetween();
        tallerThanBoth();
    }

    private static void sameRowOrColumn() {
        Due.sentence(0, "SEES: one another one whose PLACE is in the same row, or the same column");
        GlanceGrows x = still(new int[] {0, 0, 9, 0, -1}, new int[] {0, 4, 9, 0, -1}, new int[] {0, 15, 9, 0, -1}, new int[] {0, 19, 9, 0, -1},
                new int[] {0, 6, 9, 0, -1});
        Due.is("0, not itself", x.sees(0), 0b00110);
        Due.is("4", x.sees(1), 0b01001);
        Due.is("15", x.sees(2), 0b01001);
        Due.is("19", x.sees(3), 0b00110);
        Due.is("6, askew to all", x.sees(4), 0);
        Due.is("alone", still(new int[] {0, 7, 9, 0, -1}).sees(0), 0);
    }

    private static void screenBetween() {
        Due.sentence(0, "if between the two (there) is no SCREEN");
        int[][] ways = {{0, 4, 1}, {15, 19, 1}, {0, 15, 5}, {4, 19, 5}};
        for (int[] w : ways) {
            for (int s = 0; s < 20; s++) {
                if (s == w[0] || s == w[1]) { continue; }
                GlanceGrows x = still(new int[] {0, w[0], 9, 0, -1}, new int[] {0, w[1], 9, 0, -1});
                x.screen(s, 1);
                boolean between = s > w[0] && s < w[1] && (s - w[0]) % w[2] == 0;
                Due.is(w[0] + " and " + w[1] + ", a SCREEN at " + s, x.sees(0), between ? 0 : 2);
                Due.is(w[1] + " and " + w[0] + ", a SCREEN at " + s, x.sees(1), between ? 0 : 1);
            }
        }
        GlanceGrows x = still(new int[] {0, 6, 9, 0, -1}, new int[] {0, 7, 9, 0, -1});
        for (int s = 0; s < 20; s++) { x.screen(s, 1); }
        Due.is("nothing is between neighbours", x.sees(0), 2);
    }

    private static void tallerThanBoth() {
        Due.sentence(0, "and nobody who is taller than both");
        int[][] sizes = {{10, 20, 20, 1}, {10, 20, 21, 0}, {20, 10, 20, 1}, {20, 10, 21, 0}, {10, 20, 11, 1}, {0, 0, 0, 1}, {0, 0, 1, 0},
            {200, 0, 200, 1}, {0, 200, 200, 1}, {199, 199, 200, 0}};
        for (int step : new int[] {1, 5}) {
            for (int[] s : sizes) {
                GlanceGrows x = still(new int[] {0, 1, s[0], 0, -1}, new int[] {0, 1 + 2 * step, s[1], 0, -1}, new int[] {0, 1 + step, s[2], 0, -1});
                String who = s[0] + " and " + s[1] + " over " + s[2];
                Due.is(who, x.sees(0), 4 + 2 * s[3]);
                Due.is(who + ", back", x.sees(1), 4 + s[3]);
                Due.is("the one between sees both", x.sees(2), 3);
            }
        }
        GlanceGrows x = still(new int[] {0, 0, 10, 0, -1}, new int[] {0, 4, 30, 0, -1}, new int[] {0, 1, 31, 0, -1}, new int[] {0, 2, 5, 0, -1},
                new int[] {0, 3, 40, 0, -1});
        Due.is("over several: none but the first, and the one that is taller than it", x.sees(0), 0b10100);
        Due.is("from the other end", x.sees(1), 0b10000);
        Due.is("the low one within sees only its neighbours", x.sees(3), 0b10100);
    }

    private static void pulling() {
        far();
        heldPull();
        plainAtLeast0();
        halfPull();
        kingsDoNotLook();
        zeroSizedDraw();
        fortyForLove();
        leastOfSeveral();
        nobodyToLookAt();
    }

    private static void far() {
        Due.sentence(0, "FAR: by rows and by places in these, together");
        int[][] ways = {{0, 1, 1}, {0, 4, 4}, {4, 0, 4}, {0, 5, 1}, {0, 15, 3}, {19, 4, 3}, {19, 15, 4}, {7, 9, 2}, {7, 17, 2}};
        for (int[] w : ways) {
            boolean inRow = w[0] / 5 == w[1] / 5;
            int rival = w[0] + (inRow ? w[0] < 10 ? 5 : -5 : w[0] % 5 == 0 ? 1 : -1);
            for (int by = 0; by < 6; by++) {
                GlanceGrows x = still(new int[] {0, w[0], 9, 0, -1}, new int[] {5, rival, 9, 7, -1}, new int[] {0, w[1], 9, 0, -1});
                // The rival, which is loud, PULLS 0 and comes first: 2 is looked at only if it is so FAR.
                Due.text(x, "pull (n=0)*(f=" + by + ")");
                Due.is(w[0] + " to " + w[1] + " is " + by + " FAR", x.looks(0), by == w[2] ? 2 : 1);
            }
        }
    }

    private static void heldPull() {
        Due.sentence(0, "what pull gives, held within 0 .. 499");
        Object[][] due = {{"498+(n=1)", 2}, {"499+(n=1)", 1}, {"(n=1)*9999*9999", 2}, {"499+(n=1)*9999", 1}, {"(n=1)*2-1", 2}, {"(n=1)-1", 1}, {"(n=1)-2", 1},
            {"0-(n=0)*9999", 1}, {"9999*9999*9999*(n=1)", 1}, {"9999*9999*(n=1)*22", 1}};
        for (Object[] d : due) {
            GlanceGrows x = still(new int[] {0, 0, 9, 0, -1}, new int[] {0, 1, 9, 0, -1}, new int[] {0, 5, 9, 1, -1});
            Due.is("text", Due.text(x, "pull " + d[0]), 0);
            Due.is("by " + d[0], x.looks(0), (Integer) d[1]);
        }
        // Held ahead of what the KIND does: an ACTOR at 499 PULLS 514, a SPY only 249.
        GlanceGrows x = still(new int[] {0, 0, 9, 0, -1}, new int[] {0, 1, 9, 0, -1}, new int[] {1, 5, 9, 0, -1});
        Due.text(x, "pull 9999");
        Due.is("an ACTOR above 499", x.looks(0), 2);
        x.turns(1, 2);
        x.turns(2, 0);
        x.set(2, 3, 1);
        Due.text(x, "pull (n=0)*9999+(n=1)*250");
        Due.is("a SPY above 499 PULLS less than 250", x.looks(0), 2);
        Due.text(x, "pull (n=0)*9999+(n=1)*249");
        Due.is("and as much as 249", x.looks(0), 1);
    }

    private static void plainAtLeast0() {
        Due.sentence(0, "SIZED and NOISE, less 3 times FAR, together (0 at least)");
        GlanceGrows x = still(new int[] {0, 0, 9, 0, -1}, new int[] {0, 4, 1, 0, -1}, new int[] {0, 5, 1, 0, -1});
        Due.is("1 less 12 and 1 less 3 are both 0", x.looks(0), 1);
        x.set(2, 3, 2);
        Due.is("1 and 2 less 3 is 0", x.looks(0), 1);
        x.set(2, 3, 3);
        Due.is("1 and 3 less 3 is 1", x.looks(0), 2);
        x.set(1, 2, 13);
        Due.is("13 less 12 is 1", x.looks(0), 1);
        x.set(1, 2, 200);
        x.set(1, 3, 50);
        x.set(2, 2, 191);
        x.set(2, 3, 50);
        Due.is("250 less 12 and 241 less 3 are both 238", x.looks(0), 1);
        x.set(1, 3, 49);
        Due.is("249 less 12 is less", x.looks(0), 2);
        x.turns(1, 1);
        x.set(1, 3, 0);
        x.set(1, 2, 1);
        x.set(2, 2, 17);
        x.set(2, 3, 1);
        Due.is("an ACTOR at 0 PULLS 15", x.looks(0), 1);
        x.set(2, 3, 2);
        Due.is("and not 16", x.looks(0), 2);
    }

    private static void halfPull() {
        Due.sentence(0, "SPY: half (cut) of as ONE. LOOKS");
        for (int kind : new int[] {2, 4}) {
            // 14 less 3 is 11, the half of it 5; the other one's is 8 or 9 less 3.
            GlanceGrows x = still(new int[] {0, 0, 9, 0, -1}, new int[] {kind, 1, 14, 0, -1}, new int[] {0, 5, 8, 0, -1});
            Due.is("5, as much as the other", x.looks(0), 1);
            x.set(2, 2, 9);
            Due.is("5 and not 6", x.looks(0), 2);
            x.set(1, 2, 15);
            Due.is("the half of 12 is 6", x.looks(0), 1);
            x.set(1, 2, 4);
            x.set(2, 2, 1);
            Due.is("the half of 1 is 0", x.looks(0), 1);
            x.set(2, 2, 4);
            Due.is("and less than 1", x.looks(0), 2);
        }
    }

    private static void kingsDoNotLook() {
        Due.sentence(0, "LOOKS: each but a KING");
        for (int kind = 0; kind < 6; kind++) {
            GlanceGrows x = still(new int[] {kind, 0, 9, 0, 1}, new int[] {0, 1, 50, 50, -1});
            Due.is("KIND " + kind + " looks", x.looks(0), kind == 3 ? NONE : 1);
            Due.is("KIND " + kind + " is among the eyes", x.eyes(1), kind == 3 ? 0 : 1);
            Due.is("KIND " + kind + " gives GLANCES", x.days(1), kind == 3 ? 1 : 2);
        }
    }

    private static void zeroSizedDraw() {
        Due.sentence(0, "of those that it SEES and that are not 0 SIZED");
        GlanceGrows x = still(new int[] {0, 0, 9, 0, 1}, new int[] {3, 1, 0, 50, -1}, new int[] {0, 5, 1, 0, -1});
        Due.is("a loud, loved KING of 0", x.looks(0), 2);
        Due.is("it is seen", x.sees(0), 0b110);
        x.set(1, 2, 1);
        Due.is("of 1", x.looks(0), 1);
        x.set(1, 2, 0);
        x.set(2, 2, 0);
        Due.is("all are 0 SIZED", x.looks(0), NONE);
        x.set(0, 2, 0);
        x.set(2, 2, 1);
        Due.is("who looks may be 0 SIZED", x.looks(0), 2);
    }

    private static void fortyForLove() {
        Due.sentence(0, "40 more if it LOVES that one");
        GlanceGrows x = still(new int[] {0, 0, 9, 0, 2}, new int[] {0, 1, 50, 0, -1}, new int[] {0, 5, 10, 0, -1});
        Due.is("47 and 47: the least", x.looks(0), 1);
        x.set(2, 2, 11);
        Due.is("47 and 48", x.looks(0), 2);
        x.set(2, 2, 1);
        x.set(1, 2, 42);
        Due.is("39 and 0 and 40", x.looks(0), 2);
        x.set(1, 2, 43);
        Due.is("40 and 0 and 40", x.looks(0), 1);
        x.turns(2, 2);
        x.set(1, 2, 42);
        Due.is("the 40 of a SPY are whole", x.looks(0), 2);
        x.turns(2, 3);
        x.set(1, 2, 73);
        Due.is("those of a KING not double: 30 and 40", x.looks(0), 1);
        x.set(1, 2, 72);
        Due.is("69 and 70", x.looks(0), 2);
    }

    private static void leastOfSeveral() {
        Due.sentence(0, "who PULLS most, 40 more if it LOVES that one; of several the least");
        GlanceGrows x = still(new int[] {0, 11, 9, 0, -1}, new int[] {0, 16, 9, 0, -1}, new int[] {0, 6, 9, 0, -1}, new int[] {0, 10, 9, 0, -1},
                new int[] {0, 12, 9, 0, -1});
        Due.is("of four the least number", x.looks(0), 1);
        x.moves(1, 19);
        Due.is("of three", x.looks(0), 2);
        x.moves(2, 18);
        Due.is("of two", x.looks(0), 3);
    }

    private static void nobodyToLookAt() {
        Due.sentence(0, "at nobody, if there is none");
        GlanceGrows x = still(new int[] {0, 0, 9, 0, 1});
        Due.is("alone", x.looks(0), NONE);
        x.one(0, 6, 9, 0, -1);
        Due.is("LOVES one whom it does not see", x.looks(0), NONE);
        Due.is("no eyes", x.eyes(1), 0);
        Due.is("no GLANCES", x.days(1), 0);
    }

    private static void growing() {
        growsByGlances();
        growsAsAbove();
        worth();
    }

    private static void growsByGlances() {
        Due.sentence(0, "GROWS by g GLANCES: ONE: g; by 0: 2 less. ACTOR: twice as ONE (so by 0: 4 less). SPY: half (cut) of as ONE. MOUSE: as SPY, less 1. KEEPER: 0.");
        int[][] due = {{-2, 1, 2, 3, 4}, {-4, 2, 4, 6, 8}, {-1, 0, 1, 1, 2}, {-4, 2, 4, 6, 8}, {-2, -1, 0, 0, 1}, {0, 0, 0, 0, 0}};
        int[] places = {10, 12, 6, 16};
        for (int kind = 0; kind < 6; kind++) {
            GlanceGrows x = still(new int[] {kind, 11, 60, 0, -1});
            for (int g = 0; g <= 4; g++) {
                if (g > 0) { x.one(5, places[g - 1], 1, 0, -1); }
                Due.is("KIND " + kind + " by " + g, x.told(0, 5), due[kind][g]);
                Due.is("KIND " + kind + " by " + g + ", behind a DAY", x.behind(1, 3), 60 + due[kind][g]);
            }
        }
    }

    private static void growsAsAbove() {
        Due.sentence(0, "(A KIND that is not named does as the one above it.)");
        GlanceGrows x = still(new int[] {3, 11, 60, 0, -1});
        Due.is("a KING dwindles as an ACTOR", x.told(0, 5), -4);
        x = still(new int[] {0, 0, 9, 0, -1}, new int[] {4, 1, 23, 0, -1}, new int[] {5, 5, 13, 0, -1});
        Due.is("a MOUSE PULLS as a SPY, a KEEPER as ONE", x.looks(0), 1);
        x.set(2, 2, 14);
        Due.is("11 of a KEEPER are above 10 of a MOUSE", x.looks(0), 2);
    }

    private static void worth() {
        Due.sentence(0, "WORTH: ONE: SIZED. ACTOR: as ONE, and 5. KING: twice as ACTOR. SPY: 200 less SIZED. MOUSE: as SPY, less 6. KEEPER: 3.");
        int[][] due = {{0, 200}, {5, 205}, {200, 0}, {10, 410}, {194, -6}, {3, 3}};
        for (int kind = 0; kind < 6; kind++) {
            GlanceGrows x = still(new int[] {kind, 0, 0, 0, -1});
            Due.is("KIND " + kind + " of 0", x.told(0, 6), due[kind][0]);
            x.set(0, 2, 200);
            Due.is("KIND " + kind + " of 200", x.told(0, 6), due[kind][1]);
        }
    }

    // ---- 2

    private static void aDay() {
        allLookAhead();
        heldSizes();
        vanished();
        bumped();
        movesDrawn();
        movesOnlyWhereFree();
        noisesDrawn();
    }

    private static void allLookAhead() {
        Due.sentence(0, "(1) all LOOK, as all are ahead of it: GLANCES are more by how many look at one");
        // The MOUSE is 0 SIZED behind the DAY, but was looked at.
        GlanceGrows x = still(new int[] {4, 0, 1, 0, -1}, new int[] {0, 1, 9, 0, 0});
        Due.is("two GLANCES", x.days(1), 2);
        Due.is("the MOUSE is gone", x.told(0, 2), 0);
        Due.is("one GLANCE then", x.days(1), 1);
        Due.is("three together", x.town(0), 3);
        x = still(new int[] {0, 1, 20, 0, -1}, new int[] {0, 5, 20, 1, -1}, new int[] {0, 0, 9, 0, -1}, new int[] {0, 2, 1, 0, -1});
        // 2 looks at 1 (18 above 17), though 0 has grown to 21 by the look of 3 when it is 2's turn.
        Due.is("four GLANCES", x.days(1), 4);
        Due.is("0 by the look of 3", x.told(0, 2), 21);
        Due.is("1 by the look of 2", x.told(1, 2), 21);
        Due.is("2 by those of 0 and 1", x.told(2, 2), 11);
        Due.is("3 by none", x.told(3, 2), 0);
    }

    private static void heldSizes() {
        Due.sentence(0, "SIZED is more (or less) by what each GROWS by how many look at it, held within 0 .. 200");
        int[][] due = {{1, 197, 199}, {1, 198, 200}, {1, 199, 200}, {1, 200, 200}};
        for (int[] d : due) {
            GlanceGrows x = still(new int[] {d[0], 0, d[1], 0, -1}, new int[] {5, 1, 1, 0, -1});
            x.days(1);
            Due.is(d[1] + " and 2", x.told(0, 2), d[2]);
        }
        for (int size = 0; size < 7; size++) {
            GlanceGrows x = still(new int[] {1, 0, size, 0, -1});
            x.days(1);
            Due.is(size + " less 4", x.told(0, 2), size < 4 ? 0 : size - 4);
        }
    }

    private static void vanished() {
        Due.sentence(0, "is it 0 then, and was not, VANISHED is 1 more");
        for (int size = 0; size < 5; size++) {
            GlanceGrows x = still(new int[] {0, 0, size, 0, -1});
            x.days(1);
            Due.is("VANISHED from " + size, x.town(1), size == 1 || size == 2 ? 1 : 0);
            x.days(5);
            Due.is("VANISHED once from " + size, x.town(1), size == 0 ? 0 : 1);
            x.set(0, 2, 1);
            x.days(2);
            Due.is("VANISHED once more", x.town(1), size == 0 ? 1 : 2);
        }
        GlanceGrows x = still(new int[] {0, 0, 1, 0, -1}, new int[] {0, 6, 2, 0, -1}, new int[] {5, 12, 0, 0, -1}, new int[] {0, 18, 0, 0, -1});
        x.days(1);
        Due.is("two on one DAY", x.town(1), 2);
    }

    private static void bumped() {
        Due.sentence(0, "is it above CEILING then, BUMPS are 1 more");
        int[][] due = {{120, 123, 1}, {120, 122, 0}, {0, 2, 0}, {0, 3, 1}, {0, 0, 0}, {200, 200, 0}, {199, 200, 0}};
        for (int[] d : due) {
            GlanceGrows x = still(new int[] {0, 0, d[1], 0, -1});
            x.rule(0, d[0]);
            x.days(1);
            Due.is("CEILING " + d[0] + ", from " + d[1] + " two less", x.town(2), d[2]);
        }
        GlanceGrows x = still(new int[] {5, 0, 200, 0, -1}, new int[] {5, 6, 121, 0, -1}, new int[] {5, 12, 120, 0, -1});
        x.days(1);
        Due.is("two, though they do not grow", x.town(2), 2);
        x.days(9);
        Due.is("each DAY again", x.town(2), 20);
        x.rule(0, 200);
        x.days(9);
        Due.is("nobody is above 200", x.town(2), 20);
    }

    private static void movesDrawn() {
        Due.sentence(0, "(3) A draw; if its rest by 100 is below MOVES (and there are PEOPLE), two more");
        for (int seed : new int[] {0, 1, 2, 3, 5, 8, -1, -77, LEAST, MOST}) {
            int lot = rest(seed, 1, 100);
            for (int moves : new int[] {0, lot, lot + 1, 100}) {
                GlanceGrows x = new GlanceGrows();
                x.one(5, 0, 9, 9, -1);
                x.rule(1, moves);
                x.rule(2, 0);
                x.seed(seed);
                x.days(1);
                boolean drawn = lot < moves;
                Due.is("seed " + seed + ", MOVES " + moves, x.count(8), nth(seed, drawn ? 4 : 2));
                Due.is("its PLACE", x.told(0, 1), drawn ? rest(seed, 3, 20) : 0);
            }
            GlanceGrows x = new GlanceGrows();
            x.rule(1, 100);
            x.rule(2, 100);
            x.seed(seed);
            x.days(1);
            Due.is("without PEOPLE two draws", x.count(8), nth(seed, 2));
        }
    }

    private static void movesOnlyWhereFree() {
        Due.sentence(0, "if nobody is there (it itself neither) and no SCREEN");
        for (int seed = 0; seed < 30; seed++) {
            int who = rest(seed, 2, 2), to = rest(seed, 3, 20);
            for (int how = 0; how < 4; how++) {
                GlanceGrows x = still(new int[] {5, (to + 1) % 20, 9, 9, -1}, new int[] {5, (to + 2) % 20, 9, 9, -1});
                if (how == 1) { x.moves(1 - who, to); }
                if (how == 2) { x.moves(who, to); }
                if (how == 3) { x.screen(to, 1); }
                int was = x.told(who, 1), other = x.told(1 - who, 1);
                x.rule(1, 100);
                x.seed(seed);
                x.days(1);
                Due.is("how " + how + ": the one", x.told(who, 1), how == 0 ? to : was);
                Due.is("how " + how + ": the other", x.told(1 - who, 1), other);
                Due.is("how " + how + ": whose it is", x.at(to), how == 0 || how == 2 ? who : how == 1 ? 1 - who : NONE);
                Due.is("how " + how + ": whose it was", x.at(was), how == 0 ? NONE : who);
                Due.is("how " + how + ": four draws", x.count(8), nth(seed, 4));
            }
        }
    }

    private static void noisesDrawn() {
        Due.sentence(0, "(4) A draw; if its rest by 100 is below NOISES (and there are PEOPLE), two more");
        for (int seed : new int[] {0, 1, 2, 3, 5, 8, -1, -77, LEAST, MOST}) {
            int lot = rest(seed, 2, 100);
            for (int noises : new int[] {0, lot, lot + 1, 100}) {
                GlanceGrows x = still(new int[] {5, 0, 9, 50, -1}, new int[] {5, 6, 9, 50, -1}, new int[] {5, 12, 9, 50, -1});
                x.rule(2, noises);
                x.seed(seed);
                x.days(1);
                boolean drawn = lot < noises;
                Due.is("seed " + seed + ", NOISES " + noises, x.count(8), nth(seed, drawn ? 4 : 2));
                for (int one = 0; one < 3; one++) {
                    Due.is("NOISE of " + one, x.told(one, 3), drawn && one == rest(seed, 3, 3) ? rest(seed, 4, 30) : 50);
                }
            }
        }
    }

    private static void draws() {
        Due.sentence(0, "A draw: z becomes z * 1103515245 + 12345 (an int); it gives z >>> 8");
        GlanceGrows x = new GlanceGrows();
        Due.is("z at first", x.count(8), 1);
        x.days(1);
        // By hand: 1103527590, then 1103527590 * 1103515245 + 12345 as an int.
        Due.is("two draws", x.count(8), (int) (1103527590L * 1103515245L + 12345L));
        for (int seed : new int[] {LEAST, MOST, -1, 0, 0x12345678}) {
            x.seed(seed);
            x.days(1);
            long z = seed;
            for (int i = 0; i < 2; i++) { z = (int) (z * 1103515245L + 12345L); }
            Due.is("wrapped from " + seed, x.count(8), z);
        }
        boolean below = false;
        for (int seed = 0; seed < 20; seed++) {
            GlanceGrows y = new GlanceGrows();
            y.seed(seed);
            y.deal(1);
            long z = next(seed);
            below = below || z < 0;
            Due.is("the highest 24 bits, never below 0", y.told(0, 0), ((z & 0xFFFFFFFFL) >> 8) % 6);
        }
        Due.holds("some z are below 0", below);
    }

    private static void peopleDrawn() {
        fiveDraws();
        nextPlaceRound();
        noPlaceLeft();
    }

    private static void fiveDraws() {
        Due.sentence(0, "SIZED 20 and that of one more by 60, NOISE that of one more by 30, LOVES that of one more by 9, less 1");
        int[] by = {6, 20, 60, 30, 9}, more = {0, 0, 20, 0, -1}, least = new int[5], most = new int[5];
        for (int seed = 0; seed < 400; seed++) {
            GlanceGrows x = new GlanceGrows();
            x.seed(seed * 99991);
            x.deal(1);
            for (int what = 0; what < 5; what++) {
                int v = x.told(0, what);
                Due.is("draw " + what + " of seed " + seed * 99991, v, rest(seed * 99991, what + 1, by[what]) + more[what]);
                least[what] = seed == 0 ? v : Math.min(least[what], v);
                most[what] = Math.max(most[what], v);
            }
        }
        for (int what = 0; what < 5; what++) {
            Due.is("the least of draws " + what, least[what], more[what]);
            Due.is("the most of draws " + what, most[what], by[what] - 1 + more[what]);
        }
    }

    private static void nextPlaceRound() {
        Due.sentence(0, "the next one that is nobody's and has no SCREEN, round, if it is not so");
        for (int seed = 0; seed < 60; seed++) {
            int first = rest(seed, 2, 20);
            for (int taken = 0; taken < 20; taken++) {
                GlanceGrows x = new GlanceGrows();
                for (int k = 0; k < taken; k++) {
                    int place = (first + k) % 20;
                    // Somebody at every third place, a SCREEN at the others.
                    if (k % 3 == 0) { x.one(5, place, 9, 9, -1); } else { x.screen(place, 1); }
                }
                int number = x.count(0);
                x.seed(seed);
                if (number == 8) { continue; }
                Due.is("seed " + seed + ", " + taken + " taken: one comes", x.deal(1), 1);
                Due.is("seed " + seed + ", " + taken + " taken: its PLACE", x.told(number, 1), (first + taken) % 20);
            }
        }
    }

    private static void noPlaceLeft() {
        Due.sentence(0, "(if there is no such PLACE: all five are drawn, that one does not come, and no more are drawn)");
        for (int n = 1; n <= 8; n++) {
            GlanceGrows x = new GlanceGrows();
            for (int place = 0; place < 20; place++) { if (place != 6 && place != 13) { x.screen(place, 1); } }
            x.seed(n);
            Due.is("deal(" + n + ")", x.deal(n), Math.min(n, 2));
            Due.is("draws", x.count(8), nth(n, 5 * Math.min(n, 3)));
            Due.is("how many", x.count(0), Math.min(n, 2));
        }
    }

    // ---- 3

    private static void bestPlaces() {
        curtainOfSeveral();
        curtainAmongFree();
        seatOfSeveral();
        seatAmongFree();
    }

    private static void curtainOfSeveral() {
        Due.sentence(0, "with a SCREEN at which fewest LOOK at it now; of several the least");
        GlanceGrows x = still(new int[] {0, 17, 9, 0, -1}, new int[] {5, 2, 9, 0, -1});
        Due.is("7 and 12 are between", x.curtain(0, 0), 7);
        Due.is("nobody then", x.curtain(0, 1), 0);
        x.screen(7, 1);
        Due.is("nobody anyhow: the least", x.curtain(0, 0), 0);
        x.screen(7, 0);
        x.moves(1, 16);
        Due.is("nothing is between: the least", x.curtain(0, 0), 0);
        Due.is("one looks still", x.curtain(0, 1), 1);
        // A SCREEN may bring eyes, too: without 1 in view 2 looks at 0.
        x = still(new int[] {0, 10, 9, 0, -1}, new int[] {3, 2, 90, 0, -1}, new int[] {0, 0, 9, 0, -1});
        Due.is("2 looks at the KING", x.eyes(0), 0);
        Due.is("1 would bring an eye, 0 is 2's: 3", x.curtain(0, 0), 3);
        Due.is("nobody", x.curtain(0, 1), 0);
    }

    private static void curtainAmongFree() {
        Due.sentence(0, "CURTAIN of one: the PLACE that is nobody's and has no SCREEN");
        for (int left = 0; left < 20; left++) {
            GlanceGrows x = still();
            x.one(0, left == 8 ? 9 : 8, 9, 0, -1);
            for (int place = 0; place < 20; place++) { if (place != left) { x.screen(place, 1); } }
            Due.is("only " + left + " is free", x.curtain(0, 0), left);
            Due.is("nobody looks", x.curtain(0, 1), 0);
            x.screen(left, 1);
            Due.is("none is free", x.curtain(0, 0), NONE);
            Due.is("none is free: how many", x.curtain(0, 1), NONE);
        }
    }

    private static void seatOfSeveral() {
        Due.sentence(0, "at which most LOOK at it now; of several the least");
        GlanceGrows x = still(new int[] {0, 19, 9, 0, -1}, new int[] {5, 7, 9, 0, -1});
        Due.is("the least of 7's row and column", x.seat(0, 0), 2);
        Due.is("one looks", x.seat(0, 1), 1);
        x.moves(0, 1);
        Due.is("2 still", x.seat(0, 0), 2);
        x.moves(0, 2);
        Due.is("its own, the least", x.seat(0, 0), 2);
        x.set(0, 2, 0);
        Due.is("nobody looks at 0 SIZED: the least of all", x.seat(0, 0), 0);
        Due.is("nobody", x.seat(0, 1), 0);
    }

    private static void seatAmongFree() {
        Due.sentence(0, "SEAT of one: the PLACE, its own one or one that is nobody's and has no SCREEN");
        for (int own = 0; own < 20; own++) {
            GlanceGrows x = still();
            x.one(0, own, 9, 0, -1);
            for (int place = 0; place < 20; place++) { if (place != own) { x.screen(place, 1); } }
            Due.is("only its own", x.seat(0, 0), own);
            Due.is("nobody looks", x.seat(0, 1), 0);
            int other = (own + 7) % 20;
            x.screen(other, 0);
            Due.is("its own, or " + other, x.seat(0, 0), Math.min(own, other));
            x.one(5, other, 9, 0, -1);
            Due.is("not another's", x.seat(0, 0), own);
        }
    }

    private static void whatWillBe() {
        onlyThought();
        gone();
        bumpedFirst();
        loudSteps();
        lovedFromNowOn();
        becomesOfSeveral();
        likeEdges();
    }

    private static void onlyThought() {
        Due.sentence(0, "(All that follows is only thought, z as it is, without the bound of THE DAY: nothing changes.)");
        GlanceGrows x = still(new int[] {0, 0, 99, 0, -1}, new int[] {5, 6, 9, 0, -1}, new int[] {5, 1, 9, 0, -1});
        for (int i = 0; i < 99; i++) { x.days(100); }
        x.days(99);
        int z = x.count(8), g = x.town(0);
        x.set(0, 2, 99);
        x.moves(0, 19);
        Due.is("THE DAY", x.count(1), 9999);
        Due.is("behind", x.behind(5, 3), 89);
        Due.is("behind 100, GLANCES", x.behind(100, 0), g + 200);
        Due.is("vanishes", x.vanishes(0), 50);
        x.rule(0, 101);
        x.moves(0, 0);
        Due.is("bumps", x.bumps(0), 3);
        Due.is("loud", x.loud(0, 7, 1), 106);
        Due.is("loved", x.loved(0, 7, 1), 106);
        Due.is("becomes", x.becomes(0, 7, 1), 113);
        x.sheet(0, 0, 3);
        for (int i = 0; i < 3; i++) { x.mark(0, i, 99 + i); }
        Due.is("like", x.like(0, 1), 0);
        Due.is("z as it is", x.count(8), z);
        Due.is("THE DAY still", x.count(1), 9999);
        Due.is("GLANCES still", x.town(0), g);
        Due.is("SIZED still", x.told(0, 2), 99);
    }

    private static void gone() {
        Due.sentence(0, "GONE of one: behind how many DAYS (0 .. 200) it is 0 SIZED first");
        int[][] due = {{0, 0, 0}, {0, 1, 1}, {0, 2, 1}, {0, 3, 2}, {0, 200, 100}, {2, 200, 200}, {2, 199, 199}, {1, 200, 50}, {4, 200, 100}, {5, 1, NONE}};
        for (int[] d : due) {
            GlanceGrows x = still(new int[] {d[0], 0, d[1], 0, -1});
            Due.is("KIND " + d[0] + " of " + d[1], x.vanishes(0), d[2]);
        }
        GlanceGrows x = still(new int[] {2, 0, 200, 0, -1}, new int[] {2, 1, 1, 0, -1});
        Due.is("looked at for good", x.vanishes(0), NONE);
        x = still(new int[] {2, 0, 200, 0, -1}, new int[] {0, 2, 101, 0, -1}, new int[] {5, 1, 1, 0, -1}, new int[] {5, 7, 150, 0, -1});
        // 3 looks at the SPY on the first DAY alone (number 1 PULLS as much, then more): 0 SIZED behind 201.
        Due.is("behind 100", x.behind(100, 3), 101);
        Due.is("one DAY too late", x.vanishes(0), NONE);
        x.days(1);
        Due.is("behind 200 from the next DAY on", x.vanishes(0), 200);
    }

    private static void bumpedFirst() {
        Due.sentence(0, "BUMPED of one: behind how many DAYS (0 .. 200) SIZED is above CEILING first");
        int[][] due = {{120, 121, 0}, {120, 120, 1}, {120, 119, 2}, {199, 0, NONE}, {199, 1, 199}, {199, 199, 1}, {199, 200, 0}, {200, 200, NONE}, {0, 1, 0},
            {0, 0, NONE}};
        for (int[] d : due) {
            GlanceGrows x = still(new int[] {0, 0, d[1], 0, -1}, new int[] {5, 1, 1, 0, -1});
            x.rule(0, d[0]);
            Due.is("CEILING " + d[0] + " from " + d[1], x.bumps(0), d[2]);
        }
        // The SPY grows by 1 as soon as 1 looks at it, too, and no more at the MOUSE, which dwindles by 1: on DAY 2, or 3.
        for (int mouse : new int[] {15, 16}) {
            GlanceGrows x = still(new int[] {2, 5, 1, 12, -1}, new int[] {5, 0, 1, 0, -1}, new int[] {4, 1, mouse, 0, -1}, new int[] {5, 7, 1, 0, -1});
            x.rule(0, 199);
            Due.is("half of the way", x.behind(100, 3), mouse == 15 ? 100 : 99);
            Due.is("200 behind DAY 200, or 201", x.bumps(0), mouse == 15 ? 200 : NONE);
        }
    }

    private static void loudSteps() {
        Due.sentence(0, "LOUD of one, for n: the NOISE (0, 5, .., 50) with which it is tallest behind n DAYS; of several the least");
        for (int rival = 20; rival < 80; rival++) {
            GlanceGrows x = still(new int[] {0, 5, 20, 33, -1}, new int[] {5, 0, 1, 0, -1}, new int[] {5, 1, rival, 0, -1});
            int wants = Math.max(0, (rival - 20 + 4) / 5 * 5);
            Due.is("against " + rival, x.loud(0, 1, 0), wants <= 50 ? wants : 0);
            Due.is("how tall", x.loud(0, 1, 1), wants <= 50 ? 21 : 18);
        }
    }

    private static void lovedFromNowOn() {
        Due.sentence(0, "LOVED of one, for n: the other one with whom, LOVING it from now on, it is tallest behind n DAYS; of several the least");
        GlanceGrows x = still(new int[] {0, 19, 20, 0, -1});
        Due.is("alone", x.loved(0, 1, 0), NONE);
        x.one(5, 0, 9, 0, -1);
        x.one(5, 6, 9, 0, -1);
        Due.is("0's love nobody feels: the least other", x.loved(0, 5, 0), 1);
        Due.is("1's: the least other", x.loved(1, 5, 0), 0);
        Due.is("2's", x.loved(2, 5, 0), 0);
        x.one(5, 14, 9, 0, -1);
        x.one(5, 13, 90, 0, -1);
        Due.is("3 turns to 0", x.loved(0, 5, 0), 1);
        x.set(4, 2, 50);
        Due.is("3 turns to 0, as 4 is lower", x.loved(0, 5, 0), 3);
        Due.is("how tall", x.loved(0, 5, 1), 25);
        Due.is("LOVES of 3 stays", x.told(3, 4), -1);
    }

    private static void becomesOfSeveral() {
        Due.sentence(0, "BECOMES of one, for n: the KIND as one of which it is tallest behind n DAYS; of several the least");
        GlanceGrows x = still(new int[] {3, 0, 200, 0, -1}, new int[] {5, 1, 9, 0, -1});
        Due.is("200 by 0, 1, 2, 3, 5: the least", x.becomes(0, 9, 0), 0);
        x.set(0, 2, 199);
        Due.is("199 and 1", x.becomes(0, 1, 0), 0);
        x.set(0, 2, 198);
        Due.is("ACTOR and KING: the least", x.becomes(0, 1, 0), 1);
        x.moves(0, 12);
        Due.is("unseen a KEEPER alone stays", x.becomes(0, 1, 0), 5);
        x.set(0, 2, 0);
        Due.is("all stay 0: the least", x.becomes(0, 60, 0), 0);
        Due.is("0", x.becomes(0, 60, 1), 0);
    }

    private static void likeEdges() {
        Due.sentence(0, "LIKE by a SHEET: the one whose SIZED behind k DAYS and places k that are numbers (k from 0 on) differ least (signs left out), together; of several the least");
        GlanceGrows x = still(new int[] {5, 0, 10, 0, -1}, new int[] {5, 6, 20, 0, -1}, new int[] {5, 12, 30, 0, -1});
        x.sheet(0, 1, 2);
        x.mark(0, 0, 0);
        x.mark(0, 1, 41);
        Due.is("10 and 31, 20 and 21, 30 and 11: the least", x.like(0, 0), 0);
        Due.is("41 together", x.like(0, 1), 41);
        x.mark(0, 0, 15);
        x.mark(0, 1, 15);
        Due.is("5 below, 5 above: the least", x.like(0, 0), 0);
        Due.is("10", x.like(0, 1), 10);
        x.mark(0, 1, 16);
        Due.is("11 against 9", x.like(0, 0), 1);
        x.mark(0, 0, NONE);
        x.mark(0, 1, NONE);
        Due.is("no numbers: the least", x.like(0, 0), 0);
        Due.is("no differences", x.like(0, 1), 0);
        x.sheet(1, 1, 24);
        for (int k = 0; k < 24; k++) { x.mark(1, k, k % 2 == 0 ? 99999 : -99999); }
        Due.is("far away: all the same", x.like(1, 0), 0);
        Due.is("24 times 99999", x.like(1, 1), 24 * 99999);
        x = still(new int[] {0, 0, 40, 0, -1}, new int[] {2, 6, 30, 0, -1});
        x.sheet(0, 0, 24);
        for (int k = 0; k < 24; k++) { x.mark(0, k, Math.max(0, 30 - k)); }
        Due.is("the SPY, DAY by DAY", x.like(0, 0), 1);
        Due.is("no differences behind 23 DAYS", x.like(0, 1), 0);
        for (int k = 0; k < 24; k++) { x.mark(0, k, Math.max(0, 40 - 2 * k)); }
        Due.is("the other", x.like(0, 0), 0);
        x.sheet(2, 0, 0);
        Due.is("no places", x.like(2, 0), 0);
        Due.is("no places, no differences", x.like(2, 1), 0);
    }

    // ---- 4

    private static void tape() {
        fourteenTexts();
        ninetySixBytes();
        usedUp();
    }

    private static void fourteenTexts() {
        Due.sentence(0, "TEXTS, 14 at most, numbered from 0");
        GlanceGrows x = new GlanceGrows();
        for (int i = 0; i < 14; i++) {
            Due.is("textTold ahead of it", x.textTold(i, 0), BAD);
            Due.is("text " + i, Due.text(x, i % 2 == 0 ? "fee " + i : "fine s"), i);
            Due.is("textTold", x.textTold(i, 0), i % 2 == 0 ? 1 : 2);
        }
        Due.is("a fifteenth", Due.text(x, "pull s+n"), FULL);
        Due.is("no fifteenth", x.textTold(14, 0), BAD);
        Due.is("14", x.count(5), 14);
        Due.is("pull has none", x.why(0), NONE);
        Due.is("the last of fee", x.fee(), 12);
    }

    private static void ninetySixBytes() {
        Due.sentence(0, "from THE TAPE (96 bytes at most");
        GlanceGrows x = new GlanceGrows();
        for (int i = 1; i <= 8; i++) { Due.is("feed " + i, x.feed(0x20202020, 0x20202020, 0x20202020), 12 * i); }
        Due.is("a ninth", x.feed(0, 0, 0), FULL);
        Due.is("96", x.count(7), 96);
        Due.is("96 blanks end too soon", x.text(), -196);
        StringBuilder s = new StringBuilder("fee (0");
        while (s.length() < 95) { s.append(s.length() % 2 == 0 ? '+' : '1'); }
        s.append(')');
        s.setCharAt(94, ' ');
        Due.is("a TEXT of 96 bytes", Due.text(x, s.toString()), 0);
        Due.is("it gives", x.fee(), 44);
        Due.is("how many NUMBERS", x.textTold(0, 1), 45);
        s.setCharAt(95, '+');
        Due.is("its end too soon", Due.text(x, s.toString()), -196);
        s.setCharAt(95, '*');
        s.setCharAt(94, '*');
        Due.is("a FAULT at its last byte", Due.text(x, s.toString()), -195);
    }

    private static void usedUp() {
        Due.sentence(0, "an act that reads it uses it up, whatever it answers");
        GlanceGrows x = new GlanceGrows();
        for (int i = 0; i < 14; i++) {
            Due.text(x, "fee 7");
            Due.is("a TEXT", x.count(7), 0);
        }
        Due.text(x, "fee 7");
        Due.is("FULL", x.count(7), 0);
        Due.text(x, "fee");
        Due.is("a FAULT", x.count(7), 0);
        Due.is("empty", x.text(), -100);
        Due.is("empty still", x.count(7), 0);
        Due.is("the next bytes are the first", x.feed(1, 2, 3), 12);
        Due.is("a FAULT at the first", x.text(), -100);
    }

    private static void faults(Object... due) {
        for (int i = 0; i < due.length; i += 2) {
            GlanceGrows x = new GlanceGrows();
            int place = (Integer) due[i + 1];
            Due.is("'" + due[i] + "'", Due.text(x, (String) due[i]), place < 0 ? 0 : -100 - place);
            Due.is("TEXTS then", x.count(5), place < 0 ? 1 : 0);
        }
    }

    private static void textsGoOn() {
        Due.sentence(0, "KEY: pull | fee | fine.");
        faults("pull 1", -1, "fee 1", -1, "fine 1", -1, "", 0, "pul 1", 0, "pulll 1", 0, "fe 1", 0, "feee 1", 0, "fin 1", 0, "finee 1", 0, "Fee 1", 0,
                "xee 1", 0, "xull 1", 0, "xine 1", 0, "fxe 1", 0, "fex 1", 0, "feea 1", 0, "feez 1", 0, "afee 1", 0, "1", 0, "(fee 1)", 0, "fee fee 1", 4, "s", 0, "fe", 0, "!fee", 0);
        Due.sentence(0, "PIECE: NUMBER (1 to 4 digits) | NAME | ! PIECE | ( E )");
        faults("fee 1", -1, "fee 12", -1, "fee 123", -1, "fee 1234", -1, "fee 9999", -1, "fee 0000", -1, "fee 12345", 4, "fee 00000", 4,
                "fee 1+12345", 6, "fee (12345)", 5, "fee !12345", 5, "fee 1234567890", 4, "fee )", 4, "fee ()", 5, "fee !)", 5, "fee (!", 6, "fee (1))", 7);
        Due.sentence(0, "NAMES, each one letter: of pull s SIZED, n NOISE, f FAR; of fee g GLANCES, v VANISHED");
        for (char c = 'a'; c <= 'z'; c++) {
            faults("pull " + c, "snf".indexOf(c) >= 0 ? -1 : 5, "fee " + c, "gv".indexOf(c) >= 0 ? -1 : 4, "fine " + c, "sp".indexOf(c) >= 0 ? -1 : 5);
        }
        faults("pull sn", 5, "fee gg", 4, "fine sp", 5, "fine S", 5, "fee G", 4);
        Due.sentence(0, "TEST: SUM [ (< | = | >) SUM ]");
        faults("fee 1<2", -1, "fee 1=2", -1, "fee 1>2", -1, "fee 1<2<3", 7, "fee 1<2=3", 7, "fee 1=2>3", 7, "fee (1<2)>3", -1, "fee 1<(2>3)", -1,
                "fee 1<2&3<4", -1, "fee 1<2|3<4", -1, "fee 1<2+3<4", 9, "fee 1+2<3*4=5", 11, "fee 1<", 6, "fee <1", 4, "fee 1<>2", 6, "fee !1<2<3", 8);
        words();
        blanks();
        depths();
        theEnd();
        everyByte();
    }

    private static void words() {
        Due.sentence(0, "A word is a row of letters a .. z, or of digits, as long as it goes; any other byte is a sign by itself.");
        faults("fee`1", 3, "fee{1", 3, "fee/1", 3, "fee:1", 3, "fee 1`", 5, "fee 1{", 5, "fee 1:", 5, "fee 1A", 5, "fee AB", 4, "fee 1\0", 5, "fee 1\377", 5,
                "fee 1\t+1", 5, "fee 1\n", 5, "fee\0001", 3, "fee1", 3, "fee 1g", 5, "fee g1", 5, "fee 12g34", 6, "\0fee 1", 0, "fee \2401", 4);
    }

    private static void blanks() {
        Due.sentence(0, "there may be blanks (byte 32); a word right behind another one needs one");
        faults("fee 1 ", -1, "   fee 1", -1, "fee    1", -1, "fee 1 + 2", -1, "fee(1)", -1, "fee!1", -1, "fee ( ! 1 ) ", -1, "fee1", 3, "fee 1 2", 6, "fee g v", 6,
                "fee 1v", 5, "fee g1", 5, "fee 1 v", 6, "fee 12 34", 7, "fee (1)2", 7, "fee (1)v", 7, "fee 1(2)", 5, "fee 1!2", 5, "f ee 1", 0, "fee 1 < 2", -1);
    }

    private static String many(String s, int n) { return s.repeat(n); }

    private static void depths() {
        Due.sentence(0, "the ninth ( that would be open within others, the ninth ! likewise, each by itself");
        for (int n = 1; n < 20; n++) {
            faults("fee " + many("(", n) + "1" + many(")", n), n <= 8 ? -1 : 12, "fee " + many("!", n) + "1", n <= 8 ? -1 : 12,
                    "fee " + many("!(", n) + "1" + many(")", n), n <= 8 ? -1 : 20, "fee " + many("(!", n) + "1" + many(")", n), n <= 8 ? -1 : 20);
        }
        String eight = many("(", 8) + "1" + many(")", 8), nots = many("!", 8) + "1";
        faults("fee " + eight + "+" + eight + "+" + eight, -1, "fee " + nots + "+" + nots + "+" + nots, -1, "fee " + many("(", 8) + nots + many(")", 8), -1,
                "fee " + many("!", 8) + eight, -1, "fee " + many("(", 8) + nots + "+" + nots + many(")", 8), -1,
                "fee (" + eight + ")", 12, "fee !" + nots, 12, "fee " + eight + "+(" + eight + ")", 30, "fee " + many("!", 8) + "1+!" + many("!", 8) + "1", 22);
    }

    private static void theEnd() {
        Due.sentence(0, "the end (the place behind the last byte), if it comes too soon");
        faults("", 0, " ", 1, "fee", 3, "fee ", 4, "fee   ", 6, "fee 1+", 6, "fee 1+ ", 7, "fee (1", 6, "fee (1 ", 7, "fee !", 5, "fee (", 5, "fee 1|", 6, "fee 1&", 6,
                "fee 1*", 6, "fee 1/", 6, "fee 1-", 6, "fee 1<", 6, "fee 1=", 6, "fee 1>", 6, "fee ((1)", 8);
        GlanceGrows x = new GlanceGrows();
        x.feed(0x66656520, 0x2B202020, 0x20202020);
        x.trim(4);
        Due.is("trimmed bytes are not read", x.text(), -104);
        x.feed(0x66656520, 0x31202020, 0x20202020);
        x.trim(4);
        Due.is("trimmed again", x.text(), -104);
    }

    /** Each byte behind a TEXT, and in the place of a PIECE, tells whether TEXTS go on with it. */
    private static void everyByte() {
        Due.sentence(0, "FAULT: the first byte of the first word or sign with which no TEXT goes on");
        for (int b = 0; b < 256; b++) {
            char c = (char) b;
            boolean joins = "|&<=>+-*/".indexOf(c) >= 0;
            boolean opens = "!(".indexOf(c) >= 0;
            boolean leaf = c >= '0' && c <= '9' || c == 'g' || c == 'v';
            faults("fee 1" + c, c == ' ' || c >= '0' && c <= '9' ? -1 : joins ? 6 : 5,
                    "fee " + c, c == ' ' || opens ? 5 : leaf ? -1 : 4,
                    "fee 1" + c + "2", joins || c >= '0' && c <= '9' ? -1 : c == ' ' ? 6 : 5);
        }
    }

    private static void gives(Object... due) {
        for (int i = 0; i < due.length; i += 2) {
            GlanceGrows x = new GlanceGrows();
            Due.is("'" + due[i] + "'", Due.text(x, "fee " + due[i]), 0);
            Due.is("fee() by '" + due[i] + "'", x.fee(), (Integer) due[i + 1]);
        }
    }

    private static void textsGive() {
        Due.sentence(0, "Ints wrap");
        gives("9999*9999*9999", 9999 * 9999 * 9999, "9999*9999*22", 9999 * 9999 * 22, "8*8*8*8*8*8*8*8*8*8*2", LEAST, "8*8*8*8*8*8*8*8*8*8*4", 0,
                "0-8*8*8*8*8*8*8*8*8*8*2", LEAST, "8*8*8*8*8*8*8*8*8*8*2-1", MOST, "8*8*8*8*8*8*8*8*8*8*2-1+1", LEAST,
                "8*8*8*8*8*8*8*8*8*8*2<0", 1, "(8*8*8*8*8*8*8*8*8*8*2)/(0-1)", LEAST);
        Due.sentence(0, "/ is 0 by 0");
        gives("7/0", 0, "0/0", 0, "(0-7)/0", 0, "7/(1-1)", 0, "7/0/0", 0, "7/0+3", 3, "7/g", 0, "8*8*8*8*8*8*8*8*8*8*2/0", 0);
        Due.sentence(0, "/ cuts towards 0");
        gives("7/2", 3, "(0-7)/2", -3, "7/(0-2)", -3, "(0-7)/(0-2)", 3, "1/2", 0, "(0-1)/2", 0, "(0-1)/9999", 0);
        Due.sentence(0, "tests, & | ! give 1 or 0 (what is not 0 is true; both sides are worked out)");
        gives("5&7", 1, "5&0", 0, "0&5", 0, "0&0", 0, "5|7", 1, "5|0", 1, "0|5", 1, "0|0", 0, "!5", 0, "!0", 1, "!!5", 1, "!(0-1)", 0, "(0-1)&(0-1)", 1, "(0-1)|0", 1,
                "2<3", 1, "3<3", 0, "4<3", 0, "2=3", 0, "3=3", 1, "2>3", 0, "3>3", 0, "4>3", 1, "0-1<0", 1, "0&7/0", 0, "1|7/0", 1, "2&1=1", 1, "(1=1)+(2>1)+(1<2)", 3);
        Due.sentence(0, "E, the loosest first");
        faults("fee (1|0)", -1, "fee (1&0)", -1, "fee (1<0)", -1, "fee (1|0&1<2+3*4)", -1, "fee ((1|0)|(0|1))*(1|1)", -1);
        gives("(0|2)*7", 7, "(0|0)*7", 0, "(3&2)*7", 7, "!(0|0)", 1, "1|0&0", 1, "0&0|1", 1, "1|1&0", 1, "1&2=2", 1, "2=2&0", 0, "1+1=2", 1, "2=1+1", 1, "2+3*4", 14, "2*3+4", 10, "9-3-2", 4, "9-(3-2)", 8, "48/4/3", 4,
                "48/4*3", 36, "2*7/4", 3, "!0+5", 6, "!0*5", 5, "!(0+5)", 0, "!1=0", 1, "!(1=0)", 1, "1-1|1", 1, "3<2|2<3", 1, "1<2+2", 1);
        Due.sentence(0, "Of a KEY that TEXT counts that was told last.");
        GlanceGrows x = still(new int[] {0, 0, 9, 5, -1});
        Due.is("without any: GLANCES", x.fee(), 0);
        Due.is("without any: NOISE", x.fine(0), 5);
        Due.is("none counts", x.why(1), NONE);
        Due.text(x, "fee 1");
        Due.text(x, "fine 2");
        Due.text(x, "fee 3");
        Due.is("a FAULT does not count", Due.text(x, "fee 4+"), -106);
        Due.is("the last of fee", x.fee(), 3);
        Due.is("the last of fine", x.fine(0), 2);
        Due.is("its number", x.why(1), 2);
        Due.is("its number", x.why(2), 1);
        Due.is("none of pull", x.why(0), NONE);
    }

    // ---- 5

    private static void sheetsAndSlots() {
        Due.sentence(0, "SHEETS 0 .. 3 are rows of shorts (sort 0) or floats (1; whole numbers), with 0 to 24 places, or MISSING (at first)");
        GlanceGrows x = new GlanceGrows();
        for (int s = 0; s < 4; s++) {
            Due.is("MISSING at first", x.pour(s), NOTHING);
            Due.is("no places", x.sheet(s, s % 2, 0), 0);
            Due.is("it is there", x.pour(s), 0);
            Due.is("place 0", x.mark(s, 0, 1), INDEX);
            Due.is("24 places", x.sheet(s, s % 2, 24), 24);
            Due.is("place 23", x.mark(s, 23, 1), 1);
            Due.is("place 24", x.mark(s, 24, 1), INDEX);
            Due.is("25 places", x.sheet(s, s % 2, 25), BAD);
            Due.is("-1 places", x.sheet(s, s % 2, -1), SIZE);
            Due.is("24 still", x.mark(s, 23, 1), 1);
            Due.is("MISSING again", x.sheet(s, -1, 25), 0);
            Due.is("it is not there", x.pour(s), NOTHING);
        }
        for (int s : new int[] {-1, 4, LEAST, MOST}) { Due.is("SHEET " + s, x.pour(s), BAD); }
        noNumber();
        slotsHold();
    }

    private static void noNumber() {
        Due.sentence(0, "A place of floats may be NO NUMBER");
        GlanceGrows x = still(new int[] {5, 0, 9, 0, -1});
        x.sheet(0, 1, 1);
        Due.is("marked", x.mark(0, 0, NONE), 1);
        x.lay(0, 2, 0);
        Due.is("no number there", x.item(0, 0), KIND);
        Due.is("it pours nothing", x.pour(0), 0);
        Due.is("it reads as nothing", x.reads(0), NONE);
        Due.is("a number again", x.mark(0, 0, 0), 1);
        x.lay(0, 2, 0);
        Due.is("0", x.item(0, 0), 0);
        x.sheet(0, 0, 1);
        Due.is("not of shorts", x.mark(0, 0, NONE), KIND);
    }

    private static void slotsHold() {
        Due.sentence(0, "SLOTS 0 .. 4 each hold nothing (at first), one of the PEOPLE (as it is then, for good), a SHEET (a row of its own, as it was then), or a number");
        GlanceGrows x = still(new int[] {1, 0, 30, 0, -1});
        x.sheet(0, 0, 1);
        x.mark(0, 0, 8);
        for (int s = 0; s < 5; s++) {
            Due.is("nothing at first", x.rest(s, 1), NOTHING);
            Due.is("one", x.lay(s, 1, 0), 0);
            Due.is("35", x.ask(s, 1), 35);
        }
        for (int s : new int[] {-1, 5, LEAST, MOST}) { Due.is("SLOT " + s, x.lay(s, 0, 0), BAD); }
        x.keep();
        x.turns(0, 5);
        x.set(0, 2, 7);
        x.days(3);
        Due.is("as it was", x.ask(0, 1), 35);
        x.back();
        Due.is("behind back(), too", x.ask(0, 0), 35);
        Due.is("a SHEET", x.lay(1, 2, 0), 1);
        x.mark(0, 0, 9);
        Due.is("as it was", x.item(1, 0), 8);
        x.sheet(0, -1, 0);
        Due.is("though MISSING now", x.item(1, 0), 8);
        Due.is("a number", x.lay(2, 3, MOST), 1);
        Due.is("the most", x.rest(2, LEAST), MOST);
        Due.is("another SLOT's ONE is there", x.ask(3, 0), 35);
    }

    private static void images() {
        Due.sentence(0, "all can become as it is (again and again)");
        GlanceGrows x = still(new int[] {0, 0, 30, 4, -1});
        Due.is("none at first", x.back(), NO);
        x.keep();
        for (int again = 0; again < 3; again++) {
            x.days(2 + again);
            x.one(0, 9, 9, 9, 3);
            x.screen(4, 1);
            x.seed(99);
            x.rule(0, 5);
            Due.text(x, "fee 77");
            Due.is("back", x.back(), 1);
            Due.is("THE DAY", x.count(1), 0);
            Due.is("z", x.count(8), 1);
            Due.is("SIZED", x.told(0, 2), 30);
            Due.is("no SCREEN", x.town(4), 0);
            Due.is("CEILING", x.count(2), 120);
            Due.is("nobody at 9", x.at(9), NONE);
            Due.is("no TEXT", x.count(5) + x.fee(), 0);
        }
        imageOfNothing();
        allBut();
    }

    private static void imageOfNothing() {
        Due.sentence(0, "AN IMAGE keeps all");
        GlanceGrows x = new GlanceGrows();
        Due.is("of an empty town", x.keep(), 0);
        x.deal(8);
        x.days(5);
        Due.is("back", x.back(), 0);
        Due.is("nobody", x.told(0, 0), BAD);
        for (int p = 0; p < 20; p++) { Due.is("nobody at " + p, x.at(p), NONE); }
        Due.is("z", x.count(8), 1);
        Due.is("SIZED together", x.town(3), 0);
        for (int i = 0; i < 14; i++) { Due.text(x, "fee " + i); }
        x.keep();
        Due.is("FULL", Due.text(x, "fine 3"), FULL);
        x.back();
        Due.is("14 TEXTS", x.count(5), 14);
        Due.is("the last", x.fee(), 13);
    }

    private static void allBut() {
        Due.sentence(0, "all but SHEETS, SLOTS, numbers that wait, THE TAPE");
        GlanceGrows x = new GlanceGrows();
        x.keep();
        x.sheet(2, 1, 3);
        x.mark(2, 1, 5);
        x.lay(4, 3, 17);
        x.tell(3);
        x.feed(0x66656520, 0x39202020, 0x20202020);
        x.back();
        Due.is("the SHEET", x.mark(2, 2, 7), 1);
        x.lay(0, 2, 2);
        Due.is("its place", x.item(0, 1), 5);
        Due.is("the SLOT", x.rest(4, 10), 7);
        Due.is("one number waits", x.count(6), 1);
        Due.is("12 bytes", x.count(7), 12);
        Due.is("the TEXT", x.text(), 0);
        Due.is("it gives", x.fee(), 9);
    }
}
