import java.util.ArrayList;
import java.util.Arrays;
import java.util.List;

/**
 * The document once more, written for plainness and in other ways than the program (people as objects of classes
 * under one another, seeing by pairs, texts as tokens that are split at their loosest sign), to compare with.
 */
final class PlainTown {
    static final int BAD = -1000000001, NO = -1000000002, FULL = -1000000003, NONE = -1000000005,
            NOTHING = -1000000011, KIND = -1000000012, INDEX = -1000000013, SIZE = -1000000014;

    /** ONE, and those under it by inheritance. */
    static class One {
        int grows(int g) { return g == 0 ? -2 : g; }
        int pulls(int plain) { return plain; }
        int worth(int size) { return size; }
    }
    static class Actor extends One {
        @Override int grows(int g) { return 2 * super.grows(g); }
        @Override int pulls(int plain) { return super.pulls(plain) + 15; }
        @Override int worth(int size) { return super.worth(size) + 5; }
    }
    static class Spy extends One {
        @Override int grows(int g) { return super.grows(g) / 2; }
        @Override int pulls(int plain) { return super.pulls(plain) / 2; }
        @Override int worth(int size) { return 200 - size; }
    }
    static class King extends Actor {
        @Override int pulls(int plain) { return 2 * super.pulls(plain); }
        @Override int worth(int size) { return 2 * super.worth(size); }
    }
    static class Mouse extends Spy {
        @Override int grows(int g) { return super.grows(g) - 1; }
        @Override int worth(int size) { return super.worth(size) - 6; }
    }
    static class Keeper extends One {
        @Override int grows(int g) { return 0; }
        @Override int worth(int size) { return 3; }
    }
    static final List<One> KINDS = List.of(new One(), new Actor(), new Spy(), new King(), new Mouse(), new Keeper());

    static boolean isOf(int kind, int above) {
        return KINDS.get(above).getClass().isInstance(KINDS.get(kind));
    }

    static final class Person {
        int kind, place, size, noise, loves;
        Person(int... v) { kind = v[0]; place = v[1]; size = v[2]; noise = v[3]; loves = v[4]; }
        Person(Person p) { this(p.kind, p.place, p.size, p.noise, p.loves); }
        int worth() { return KINDS.get(kind).worth(size); }
    }

    static final class State {
        List<Person> people = new ArrayList<>();
        boolean[] screens = new boolean[20];
        int[] rules = {120, 20, 20};
        int glances, vanished, bumps, day, z = 1;
        List<PlainText> texts = new ArrayList<>();

        State copied() {
            State s = new State();
            for (Person p : people) { s.people.add(new Person(p)); }
            s.screens = screens.clone();
            s.rules = rules.clone();
            s.glances = glances; s.vanished = vanished; s.bumps = bumps; s.day = day; s.z = z;
            s.texts.addAll(texts);
            return s;
        }

        int at(int place) {
            for (int i = 0; i < people.size(); i++) { if (people.get(i).place == place) { return i; } }
            return -1;
        }

        boolean free(int place) { return at(place) < 0 && !screens[place]; }

        int lastOf(int key) {
            for (int i = texts.size() - 1; i >= 0; i--) { if (texts.get(i).key == key) { return i; } }
            return -1;
        }

        boolean sees(int a, int b) {
            Person p = people.get(a), q = people.get(b);
            if (a == b) { return false; }
            boolean row = p.place / 5 == q.place / 5, column = p.place % 5 == q.place % 5;
            if (!row && !column) { return false; }
            int step = row ? 1 : 5;
            for (int c = Math.min(p.place, q.place) + step; c < Math.max(p.place, q.place); c += step) {
                int who = at(c);
                if (screens[c]) { return false; }
                if (who >= 0 && people.get(who).size > p.size && people.get(who).size > q.size) { return false; }
            }
            return true;
        }

        int pull(int a, int b) {
            Person p = people.get(a), q = people.get(b);
            int far = Math.abs(p.place / 5 - q.place / 5) + Math.abs(p.place % 5 - q.place % 5);
            int t = lastOf(0);
            int plain = t < 0 ? Math.max(0, q.size + q.noise - 3 * far)
                    : Math.min(499, Math.max(0, texts.get(t).value(q.size, q.noise, far)));
            return KINDS.get(q.kind).pulls(plain) + (p.loves == b ? 40 : 0);
        }

        int looks(int a) {
            int best = -1;
            if (people.get(a).kind == 3) { return best; }
            for (int b = people.size() - 1; b >= 0; b--) {
                if (sees(a, b) && people.get(b).size != 0 && (best < 0 || pull(a, b) >= pull(a, best))) { best = b; }
            }
            return best;
        }

        int eyes(int one) {
            int set = 0;
            for (int a = 0; a < people.size(); a++) { if (looks(a) == one) { set |= 1 << a; } }
            return set;
        }

        int draw() { z = z * 1103515245 + 12345; return z >>> 8; }

        void day() {
            int n = people.size();
            int[] by = new int[n];
            for (int i = 0; i < n; i++) { by[i] = Integer.bitCount(eyes(i)); glances += by[i]; }
            for (int i = 0; i < n; i++) {
                Person p = people.get(i);
                int was = p.size;
                p.size = Math.min(200, Math.max(0, was + KINDS.get(p.kind).grows(by[i])));
                if (p.size == 0 && was != 0) { vanished++; }
                if (p.size > rules[0]) { bumps++; }
            }
            if (draw() % 100 < rules[1] && n > 0) {
                Person p = people.get(draw() % n);
                int place = draw() % 20;
                if (free(place)) { p.place = place; }
            }
            if (draw() % 100 < rules[2] && n > 0) {
                Person p = people.get(draw() % n);
                p.noise = draw() % 30;
            }
            day++;
        }

        State after(int n) {
            State s = copied();
            for (int i = 0; i < n; i++) { s.day(); }
            return s;
        }

        int together() { return people.stream().mapToInt(p -> p.size).sum(); }
    }

    private State s = new State();
    private State image = null;
    private byte[] tape = new byte[0];
    private final Integer[][] sheets = new Integer[4][];
    private final int[] sorts = new int[4];
    private final Object[] slots = new Object[5];
    private final List<Integer> waiting = new ArrayList<>();

    private boolean in(int v, int a, int b) { return a <= v && v <= b; }
    private boolean noOne(int one) { return !in(one, 0, s.people.size() - 1); }

    int one(int kind, int place, int size, int noise, int loves) {
        if (!in(kind, 0, 5) || !in(place, 0, 19) || !in(size, 0, 200) || !in(noise, 0, 50) || !in(loves, -1, 7)) { return BAD; }
        if (!s.free(place)) { return NO; }
        if (s.people.size() == 8) { return FULL; }
        s.people.add(new Person(kind, place, size, noise, loves));
        return s.people.size() - 1;
    }

    int told(int one, int what) {
        if (noOne(one) || !in(what, 0, 6)) { return BAD; }
        Person p = s.people.get(one);
        int[] all = {p.kind, p.place, p.size, p.noise, p.loves,
            KINDS.get(p.kind).grows(Integer.bitCount(s.eyes(one))), p.worth()};
        return all[what];
    }

    int as(int one, int kind) {
        if (noOne(one) || !in(kind, 0, 5)) { return BAD; }
        return isOf(s.people.get(one).kind, kind) ? s.people.get(one).size : KIND;
    }

    int turns(int one, int kind) {
        if (noOne(one) || !in(kind, 0, 5)) { return BAD; }
        int was = s.people.get(one).kind;
        s.people.get(one).kind = kind;
        return was;
    }

    int set(int one, int what, int v) {
        if (noOne(one)) { return BAD; }
        Person p = s.people.get(one);
        int was;
        if (what == 2 && in(v, 0, 200)) { was = p.size; p.size = v; return was; }
        if (what == 3 && in(v, 0, 50)) { was = p.noise; p.noise = v; return was; }
        if (what == 4 && in(v, -1, 7)) { was = p.loves; p.loves = v; return was; }
        return BAD;
    }

    int moves(int one, int place) {
        if (noOne(one) || !in(place, 0, 19)) { return BAD; }
        if (!s.free(place)) { return NO; }
        int was = s.people.get(one).place;
        s.people.get(one).place = place;
        return was;
    }

    int screen(int place, int is) {
        if (!in(place, 0, 19) || !in(is, 0, 1)) { return BAD; }
        if (is == 1 && s.at(place) >= 0) { return NO; }
        int was = s.screens[place] ? 1 : 0;
        s.screens[place] = is == 1;
        return was;
    }

    int at(int place) {
        if (!in(place, 0, 19)) { return BAD; }
        return s.at(place) < 0 ? NONE : s.at(place);
    }

    int rule(int what, int v) {
        if (!in(what, 0, 2) || !in(v, 0, new int[] {200, 100, 100}[what])) { return BAD; }
        int was = s.rules[what];
        s.rules[what] = v;
        return was;
    }

    int deal(int n) {
        if (!in(n, 1, 8)) { return BAD; }
        int came = 0;
        for (int i = 0; i < n && s.people.size() < 8; i++) {
            int kind = s.draw() % 6, place = s.draw() % 20, tries = 0;
            while (tries < 20 && !s.free(place)) { place = (place + 1) % 20; tries++; }
            Person p = new Person(kind, place, 20 + s.draw() % 60, s.draw() % 30, s.draw() % 9 - 1);
            if (tries == 20) { break; }
            s.people.add(p);
            came++;
        }
        return came;
    }

    int seed(int v) { int was = s.z; s.z = v; return was; }

    int looks(int one) {
        if (noOne(one)) { return BAD; }
        return s.looks(one) < 0 ? NONE : s.looks(one);
    }

    int eyes(int one) { return noOne(one) ? BAD : s.eyes(one); }

    int sees(int one) {
        if (noOne(one)) { return BAD; }
        int set = 0;
        for (int b = 0; b < s.people.size(); b++) { if (s.sees(one, b)) { set |= 1 << b; } }
        return set;
    }

    int days(int n) {
        if (!in(n, 1, 100)) { return BAD; }
        int was = s.glances;
        for (int i = 0; i < n && s.day < 9999; i++) { s.day(); }
        return s.glances - was;
    }

    int town(int what) {
        if (!in(what, 0, 4)) { return BAD; }
        int set = 0;
        for (int i = 0; i < 20; i++) { if (s.screens[i]) { set |= 1 << i; } }
        return new int[] {s.glances, s.vanished, s.bumps, s.together(), set}[what];
    }

    int curtain(int one, int what) {
        if (noOne(one) || !in(what, 0, 1)) { return BAD; }
        int best = NONE, fewest = 99;
        for (int i = 0; i < 20; i++) {
            if (!s.free(i)) { continue; }
            State t = s.copied();
            t.screens[i] = true;
            int eyes = Integer.bitCount(t.eyes(one));
            if (eyes < fewest) { best = i; fewest = eyes; }
        }
        return best == NONE || what == 0 ? best : fewest;
    }

    int seat(int one, int what) {
        if (noOne(one) || !in(what, 0, 1)) { return BAD; }
        int best = NONE, most = -1;
        for (int i = 0; i < 20; i++) {
            if (!s.free(i) && s.at(i) != one) { continue; }
            State t = s.copied();
            t.people.get(one).place = i;
            int eyes = Integer.bitCount(t.eyes(one));
            if (eyes > most) { best = i; most = eyes; }
        }
        return what == 0 ? best : most;
    }

    int behind(int n, int what) {
        if (!in(n, 0, 100) || what < 0 || what > 2 && noOne(what - 3)) { return BAD; }
        State t = s.after(n);
        return what == 0 ? t.glances : what == 1 ? t.vanished : what == 2 ? t.bumps : t.people.get(what - 3).size;
    }

    int vanishes(int one) {
        if (noOne(one)) { return BAD; }
        State t = s.copied();
        for (int k = 0; k <= 200; k++) {
            if (t.people.get(one).size == 0) { return k; }
            t.day();
        }
        return NONE;
    }

    int bumps(int one) {
        if (noOne(one)) { return BAD; }
        State t = s.copied();
        for (int k = 0; k <= 200; k++) {
            if (t.people.get(one).size > t.rules[0]) { return k; }
            t.day();
        }
        return NONE;
    }

    int loud(int one, int n, int what) {
        if (noOne(one) || !in(n, 1, 60) || !in(what, 0, 1)) { return BAD; }
        int best = -1, most = -1;
        for (int v = 0; v <= 50; v += 5) {
            State t = s.copied();
            t.people.get(one).noise = v;
            int size = t.after(n).people.get(one).size;
            if (size > most) { best = v; most = size; }
        }
        return what == 0 ? best : most;
    }

    int loved(int one, int n, int what) {
        if (noOne(one) || !in(n, 1, 60) || !in(what, 0, 1)) { return BAD; }
        if (s.people.size() == 1) { return NONE; }
        int best = -1, most = -1;
        for (int v = 0; v < s.people.size(); v++) {
            if (v == one) { continue; }
            State t = s.copied();
            t.people.get(v).loves = one;
            int size = t.after(n).people.get(one).size;
            if (size > most) { best = v; most = size; }
        }
        return what == 0 ? best : most;
    }

    int becomes(int one, int n, int what) {
        if (noOne(one) || !in(n, 1, 60) || !in(what, 0, 1)) { return BAD; }
        int best = -1, most = -1;
        for (int v = 0; v < 6; v++) {
            State t = s.copied();
            t.people.get(one).kind = v;
            int size = t.after(n).people.get(one).size;
            if (size > most) { best = v; most = size; }
        }
        return what == 0 ? best : most;
    }

    int like(int sheet, int what) {
        if (!in(sheet, 0, 3) || !in(what, 0, 1)) { return BAD; }
        if (sheets[sheet] == null) { return NOTHING; }
        if (s.people.isEmpty()) { return NONE; }
        int best = -1, least = Integer.MAX_VALUE;
        for (int one = 0; one < s.people.size(); one++) {
            int all = 0;
            for (int k = 0; k < sheets[sheet].length; k++) {
                if (sheets[sheet][k] != null) { all += Math.abs(s.after(k).people.get(one).size - sheets[sheet][k]); }
            }
            if (all < least) { least = all; best = one; }
        }
        return what == 0 ? best : least;
    }

    int fee() { int t = s.lastOf(1); return t < 0 ? s.glances : s.texts.get(t).value(s.glances, s.vanished, 0); }

    int fine(int one) {
        if (noOne(one)) { return BAD; }
        Person p = s.people.get(one);
        int t = s.lastOf(2);
        return t < 0 ? p.noise : s.texts.get(t).value(p.size, p.place, 0);
    }

    int feed(int a, int b, int c) {
        if (tape.length > 84) { return FULL; }
        int old = tape.length;
        tape = Arrays.copyOf(tape, old + 12);
        java.nio.ByteBuffer.wrap(tape, old, 12).putInt(a).putInt(b).putInt(c);
        return tape.length;
    }

    int trim(int n) {
        if (!in(n, 0, tape.length)) { return BAD; }
        tape = Arrays.copyOf(tape, n);
        return n;
    }

    int text() {
        PlainText t = new PlainText(tape);
        tape = new byte[0];
        if (t.fault >= 0) { return -100 - t.fault; }
        if (s.texts.size() == 14) { return FULL; }
        s.texts.add(t);
        return s.texts.size() - 1;
    }

    int textTold(int text, int what) {
        if (!in(text, 0, s.texts.size() - 1) || !in(what, 0, 1)) { return BAD; }
        return what == 0 ? s.texts.get(text).key : s.texts.get(text).leaves;
    }

    int why(int key) {
        if (!in(key, 0, 2)) { return BAD; }
        return s.lastOf(key) < 0 ? NONE : s.lastOf(key);
    }

    int sheet(int sheet, int sort, int n) {
        if (!in(sheet, 0, 3) || !in(sort, -1, 1)) { return BAD; }
        if (sort == -1) { sheets[sheet] = null; return 0; }
        if (n > 24) { return BAD; }
        if (n < 0) { return SIZE; }
        sheets[sheet] = new Integer[n];
        Arrays.fill(sheets[sheet], 0);
        sorts[sheet] = sort;
        return n;
    }

    int mark(int sheet, int place, int v) {
        if (!in(sheet, 0, 3)) { return BAD; }
        if (sheets[sheet] == null) { return NOTHING; }
        if (!in(place, 0, sheets[sheet].length - 1)) { return INDEX; }
        if (sorts[sheet] == 0) {
            if (v == NONE) { return KIND; }
            sheets[sheet][place] = (int) (short) v;
        } else {
            if (v != NONE && !in(v, -99999, 99999)) { return BAD; }
            sheets[sheet][place] = v == NONE ? null : Integer.valueOf(v);
        }
        return 1;
    }

    int pour(int sheet) {
        if (!in(sheet, 0, 3)) { return BAD; }
        if (sheets[sheet] == null) { return NOTHING; }
        int changed = 0;
        for (int i = 0; i < s.people.size(); i++) {
            Integer v = i < sheets[sheet].length ? sheets[sheet][i] : null;
            if (v == null) { continue; }
            int was = s.people.get(i).size;
            s.people.get(i).size = v < 0 ? 0 : v > 200 ? 200 : v;
            if (s.people.get(i).size != was) { changed++; }
        }
        return changed;
    }

    int reads(int sheet) {
        if (!in(sheet, 0, 3)) { return BAD; }
        if (sheets[sheet] == null) { return NOTHING; }
        for (int i = 0; i < sheets[sheet].length; i++) {
            Integer v = sheets[sheet][i];
            if (v != null && (i >= s.people.size() || s.people.get(i).place != v)) { return i; }
        }
        return NONE;
    }

    int copy(int from, int place, int to, int at, int many) {
        if (!in(from, 0, 3) || !in(to, 0, 3)) { return BAD; }
        if (sheets[from] == null || sheets[to] == null) { return NOTHING; }
        if (sorts[from] != sorts[to]) { return KIND; }
        if (place < 0 || at < 0 || many < 0 || (long) place + many > sheets[from].length
                || (long) at + many > sheets[to].length) { return INDEX; }
        Integer[] was = sheets[from].clone();
        for (int i = 0; i < many; i++) { sheets[to][at + i] = was[place + i]; }
        return many;
    }

    private int thing(Object o) {
        return o == null ? 0 : o instanceof Person ? 1 : o instanceof Integer[] ? 2 : 3;
    }

    int lay(int slot, int thing, int k) {
        if (!in(slot, 0, 4) || !in(thing, 0, 3) || thing == 1 && noOne(k) || thing == 2 && !in(k, 0, 3)) { return BAD; }
        if (thing == 2 && sheets[k] == null) { return NOTHING; }
        int was = thing(slots[slot]);
        slots[slot] = thing == 0 ? null : thing == 1 ? new Person(s.people.get(k)) : thing == 2 ? sheets[k].clone() : (Object) k;
        return was;
    }

    int ask(int slot, int kind) {
        if (!in(slot, 0, 4) || !in(kind, 0, 5)) { return BAD; }
        if (slots[slot] == null) { return NOTHING; }
        if (!(slots[slot] instanceof Person p) || !isOf(p.kind, kind)) { return KIND; }
        return p.worth();
    }

    int item(int slot, int place) {
        if (!in(slot, 0, 4)) { return BAD; }
        if (slots[slot] == null) { return NOTHING; }
        if (!(slots[slot] instanceof Integer[] row)) { return KIND; }
        if (!in(place, 0, row.length - 1)) { return INDEX; }
        return row[place] == null ? KIND : row[place];
    }

    int rest(int slot, int n) {
        if (!in(slot, 0, 4)) { return BAD; }
        if (slots[slot] == null) { return NOTHING; }
        if (!(slots[slot] instanceof Integer k)) { return KIND; }
        return n == 0 ? NO : (int) ((long) k % n);
    }

    int tell(int v) {
        if (waiting.size() == 60) { return FULL; }
        waiting.add(v);
        return waiting.size();
    }

    int check(int n) {
        List<Integer> said = new ArrayList<>(waiting);
        waiting.clear();
        if (!in(n, 1, 30)) { return BAD; }
        if (image == null) { return NO; }
        List<Integer> due = new ArrayList<>();
        State t = image.copied();
        for (int i = 0; i < n && t.day < 9999; i++) {
            t.day();
            due.add(t.glances);
            due.add(t.together());
        }
        if (said.equals(due)) { return 0; }
        int i = 0;
        while (i < said.size() && i < due.size() && said.get(i).equals(due.get(i))) { i++; }
        return 1 + i;
    }

    int keep() { image = s.copied(); return s.people.size(); }

    int back() {
        if (image == null) { return NO; }
        s = image.copied();
        return s.people.size();
    }

    int count(int what) {
        if (!in(what, 0, 8)) { return BAD; }
        return new int[] {s.people.size(), s.day, s.rules[0], s.rules[1], s.rules[2], s.texts.size(), waiting.size(),
            tape.length, s.z}[what];
    }
}
