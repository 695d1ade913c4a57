/** A town in which whoever is looked at grows. DOC.md says, by promises, what each call answers. */
public final class GlanceGrows {
    public static final int BAD = -1000000001, NO = -1000000002, FULL = -1000000003, NONE = -1000000005, NOTHING = -1000000011, KIND = -1000000012, INDEX = -1000000013, SIZE = -1000000014;

    private static final int PEOPLE = 8, PLACES = 20, ROW = 5, KINDS = 6;
    private static final int TALLEST = 200, LOUDEST = 50, PERCENT = 100, LAST_DAY = 9999;
    private static final int ONE = 0, ACTOR = 1, SPY = 2, KING = 3, MOUSE = 4, KEEPER = 5;
    private static final int CEILING = 0, MOVES = 1, NOISES = 2, RULES = 3;
    private static final int PULL = 0, FEE = 1, FINE = 2, KEYS = 3;
    private static final int TEXTS = 14, TAPE = 96;
    private static final int SHEETS = 4, SLOTS = 5, CELLS = 24, FAR_NUMBER = 99999;
    private static final int MISSING = -1, SHORTS = 0, FLOATS = 1;
    private static final int HOLDS_ONE = 1, HOLDS_SHEET = 2, HOLDS_NUMBER = 3;
    private static final int WAITING = 60, TOLD_DAYS = 30;
    private static final int SUPPOSE_NOISE = 0, SUPPOSE_LOVE = 1, SUPPOSE_KIND = 2, NOISE_STEP = 5;

    private final Laws laws = new Laws();
    private final Reader reader = new Reader();
    private final Town now = new Town(laws);
    private final Town image = new Town(laws);
    // What is only thought is lived here, so that no call makes a town of its own.
    private final Town thought = new Town(laws);
    private final Sheet[] sheets = new Sheet[SHEETS];
    private final Slot[] slots = new Slot[SLOTS];
    private final int[] waiting = new int[WAITING];
    private final int[] differences = new int[PEOPLE];
    private int waits = 0;
    private boolean imaged = false;

    public GlanceGrows() {
        for (int i = 0; i < SHEETS; i++) {
            sheets[i] = new Sheet();
        }
        for (int i = 0; i < SLOTS; i++) {
            slots[i] = new Slot();
        }
    }

    // ---- people, places

    public int one(int kind, int place, int size, int noise, int loves) {
        boolean fits = isWithin(kind, 0, KINDS - 1) && isWithin(place, 0, PLACES - 1);
        if (!fits || !isValue(2, size) || !isValue(3, noise) || !isValue(4, loves)) {
            return BAD;
        }
        if (!now.isFree(place)) {
            return NO;
        }
        if (now.people >= PEOPLE) {
            return FULL;
        }
        return now.comes(kind, place, size, noise, loves);
    }

    public int told(int one, int what) {
        if (!now.has(one)) {
            return BAD;
        }
        switch (what) {
            case 0:
                return now.kinds[one];
            case 1:
                return now.places[one];
            case 2:
                return now.sizes[one];
            case 3:
                return now.noises[one];
            case 4:
                return now.loves[one];
            case 5:
                return Kinds.growth(now.kinds[one], now.eyesOn(one));
            case 6:
                return Kinds.worth(now.kinds[one], now.sizes[one]);
            default:
                return BAD;
        }
    }

    public int as(int one, int kind) {
        if (!now.has(one) || !isWithin(kind, 0, KINDS - 1)) {
            return BAD;
        }
        return Kinds.isUnder(now.kinds[one], kind) ? now.sizes[one] : KIND;
    }

    public int turns(int one, int kind) {
        if (!now.has(one) || !isWithin(kind, 0, KINDS - 1)) {
            return BAD;
        }
        int was = now.kinds[one];
        now.kinds[one] = kind;
        return was;
    }

    public int set(int one, int what, int v) {
        if (!now.has(one) || !isValue(what, v)) {
            return BAD;
        }
        int[] values = what == 2 ? now.sizes : what == 3 ? now.noises : now.loves;
        int was = values[one];
        values[one] = v;
        return was;
    }

    public int moves(int one, int place) {
        if (!now.has(one) || !isWithin(place, 0, PLACES - 1)) {
            return BAD;
        }
        if (!now.isFree(place)) {
            return NO;
        }
        int was = now.places[one];
        now.settle(one, place);
        return was;
    }

    public int screen(int place, int is) {
        if (!isWithin(place, 0, PLACES - 1) || !isWithin(is, 0, 1)) {
            return BAD;
        }
        if (is == 1 && now.whose[place] >= 0) {
            return NO;
        }
        int was = now.screens >> place & 1;
        now.screens = is == 1 ? now.screens | 1 << place : now.screens & ~(1 << place);
        return was;
    }

    public int at(int place) {
        if (!isWithin(place, 0, PLACES - 1)) {
            return BAD;
        }
        return now.whose[place] >= 0 ? now.whose[place] : NONE;
    }

    public int rule(int what, int v) {
        if (!isWithin(what, 0, RULES - 1) || !isWithin(v, 0, what == CEILING ? TALLEST : PERCENT)) {
            return BAD;
        }
        int was = now.rules[what];
        now.rules[what] = v;
        return was;
    }

    public int deal(int n) {
        if (!isWithin(n, 1, PEOPLE)) {
            return BAD;
        }
        int room = Math.min(n, PEOPLE - now.people);
        int came = 0;
        while (came < room && now.drawsOne()) {
            came++;
        }
        return came;
    }

    public int seed(int v) {
        int was = now.z;
        now.z = v;
        return was;
    }

    // ---- looking, days

    public int looks(int one) {
        if (!now.has(one)) {
            return BAD;
        }
        int other = now.lookOf(one);
        return other >= 0 ? other : NONE;
    }

    public int eyes(int one) {
        if (!now.has(one)) {
            return BAD;
        }
        now.lookAll();
        return now.watchers[one];
    }

    public int sees(int one) {
        return now.has(one) ? now.seenBy(one) : BAD;
    }

    public int days(int n) {
        if (!isWithin(n, 1, 100)) {
            return BAD;
        }
        int was = now.glances;
        now.live(Math.min(n, LAST_DAY - now.day));
        return now.glances - was;
    }

    public int town(int what) {
        switch (what) {
            case 0:
                return now.glances;
            case 1:
                return now.vanished;
            case 2:
                return now.bumped;
            case 3:
                return now.sizesTogether();
            case 4:
                return now.screens;
            default:
                return BAD;
        }
    }

    // ---- what will be

    public int curtain(int one, int what) {
        if (!now.has(one) || !isWithin(what, 0, 1)) {
            return BAD;
        }
        int best = NONE;
        int fewest = NONE;
        thought.takesAfter(now);
        for (int place = 0; place < PLACES; place++) {
            if (now.isFree(place)) {
                thought.screens = now.screens | 1 << place;
                int eyes = thought.eyesOn(one);
                if (best == NONE || eyes < fewest) {
                    best = place;
                    fewest = eyes;
                }
            }
        }
        return what == 0 ? best : fewest;
    }

    public int seat(int one, int what) {
        if (!now.has(one) || !isWithin(what, 0, 1)) {
            return BAD;
        }
        int best = -1;
        int most = -1;
        thought.takesAfter(now);
        for (int place = 0; place < PLACES; place++) {
            if (place == now.places[one] || now.isFree(place)) {
                thought.settle(one, place);
                int eyes = thought.eyesOn(one);
                if (eyes > most) {
                    best = place;
                    most = eyes;
                }
            }
        }
        return what == 0 ? best : most;
    }

    public int behind(int n, int what) {
        if (!isWithin(n, 0, 100) || !isWithin(what, 0, 2 + now.people)) {
            return BAD;
        }
        thought.takesAfter(now);
        thought.live(n);
        switch (what) {
            case 0:
                return thought.glances;
            case 1:
                return thought.vanished;
            case 2:
                return thought.bumped;
            default:
                return thought.sizes[what - 3];
        }
    }

    public int vanishes(int one) {
        return now.has(one) ? firstDay(one, 0, 0) : BAD;
    }

    public int bumps(int one) {
        return now.has(one) ? firstDay(one, now.rules[CEILING] + 1, TALLEST) : BAD;
    }

    public int loud(int one, int n, int what) {
        if (!isSupposable(one, n, what)) {
            return BAD;
        }
        return tallest(SUPPOSE_NOISE, one, n, what);
    }

    public int loved(int one, int n, int what) {
        if (!isSupposable(one, n, what)) {
            return BAD;
        }
        if (now.people < 2) {
            return NONE;
        }
        return tallest(SUPPOSE_LOVE, one, n, what);
    }

    public int becomes(int one, int n, int what) {
        if (!isSupposable(one, n, what)) {
            return BAD;
        }
        return tallest(SUPPOSE_KIND, one, n, what);
    }

    public int like(int sheet, int what) {
        if (!isWithin(sheet, 0, SHEETS - 1) || !isWithin(what, 0, 1)) {
            return BAD;
        }
        if (sheets[sheet].sort == MISSING) {
            return NOTHING;
        }
        if (now.people == 0) {
            return NONE;
        }
        addDifferences(sheets[sheet]);
        int best = 0;
        for (int one = 1; one < now.people; one++) {
            if (differences[one] < differences[best]) {
                best = one;
            }
        }
        return what == 0 ? best : differences[best];
    }

    public int fee() {
        int text = now.counting[FEE];
        return text < 0 ? now.glances : laws.value(text, now.glances, now.vanished, 0);
    }

    public int fine(int one) {
        if (!now.has(one)) {
            return BAD;
        }
        int text = now.counting[FINE];
        return text < 0 ? now.noises[one] : laws.value(text, now.sizes[one], now.places[one], 0);
    }

    // ---- texts

    public int feed(int a, int b, int c) {
        if (reader.bytes + 12 > TAPE) {
            return FULL;
        }
        reader.takes(a);
        reader.takes(b);
        reader.takes(c);
        return reader.bytes;
    }

    public int trim(int n) {
        if (!isWithin(n, 0, reader.bytes)) {
            return BAD;
        }
        reader.bytes = n;
        return n;
    }

    public int text() {
        // A text that has no room is read all the same: its fault stands ahead of FULL.
        int number = Math.min(now.texts, TEXTS);
        Text text = laws.texts[number];
        int fault = reader.parse(text);
        if (fault >= 0) {
            return -100 - fault;
        }
        if (number >= TEXTS) {
            return FULL;
        }
        now.counting[text.key] = number;
        now.texts = number + 1;
        return number;
    }

    public int textTold(int text, int what) {
        if (!isWithin(text, 0, now.texts - 1) || !isWithin(what, 0, 1)) {
            return BAD;
        }
        return what == 0 ? laws.texts[text].key : laws.texts[text].leaves;
    }

    public int why(int key) {
        if (!isWithin(key, 0, KEYS - 1)) {
            return BAD;
        }
        return now.counting[key] >= 0 ? now.counting[key] : NONE;
    }

    // ---- sheets, slots

    public int sheet(int sheet, int sort, int n) {
        if (!isWithin(sheet, 0, SHEETS - 1) || !isWithin(sort, MISSING, FLOATS)) {
            return BAD;
        }
        int length = sort == MISSING ? 0 : n;
        if (length > CELLS) {
            return BAD;
        }
        if (length < 0) {
            return SIZE;
        }
        sheets[sheet].clears(sort, length);
        return length;
    }

    public int mark(int sheet, int place, int v) {
        int finding = sheetFinding(sheet);
        if (finding != 0) {
            return finding;
        }
        Sheet row = sheets[sheet];
        if (!isWithin(place, 0, row.length - 1)) {
            return INDEX;
        }
        if (row.sort == SHORTS) {
            if (v == NONE) {
                return KIND;
            }
            row.cells[place] = (short) v;
            return 1;
        }
        if (v != NONE && !isWithin(v, -FAR_NUMBER, FAR_NUMBER)) {
            return BAD;
        }
        row.cells[place] = v;
        return 1;
    }

    public int pour(int sheet) {
        int finding = sheetFinding(sheet);
        if (finding != 0) {
            return finding;
        }
        Sheet row = sheets[sheet];
        int changed = 0;
        for (int one = 0; one < Math.min(now.people, row.length); one++) {
            if (row.cells[one] != NONE) {
                int size = held(row.cells[one], 0, TALLEST);
                changed += size != now.sizes[one] ? 1 : 0;
                now.sizes[one] = size;
            }
        }
        return changed;
    }

    public int reads(int sheet) {
        int finding = sheetFinding(sheet);
        if (finding != 0) {
            return finding;
        }
        Sheet row = sheets[sheet];
        for (int place = 0; place < row.length; place++) {
            boolean same = place < now.people && row.cells[place] == now.places[place];
            if (row.cells[place] != NONE && !same) {
                return place;
            }
        }
        return NONE;
    }

    public int copy(int from, int place, int to, int at, int many) {
        if (!isWithin(from, 0, SHEETS - 1) || !isWithin(to, 0, SHEETS - 1)) {
            return BAD;
        }
        Sheet source = sheets[from];
        Sheet target = sheets[to];
        if (source.sort == MISSING || target.sort == MISSING) {
            return NOTHING;
        }
        if (source.sort != target.sort) {
            return KIND;
        }
        if (!source.hasPart(place, many) || !target.hasPart(at, many)) {
            return INDEX;
        }
        System.arraycopy(source.cells, place, target.cells, at, many);
        return many;
    }

    public int lay(int slot, int thing, int k) {
        if (!isWithin(slot, 0, SLOTS - 1) || !isWithin(thing, 0, HOLDS_NUMBER)) {
            return BAD;
        }
        if (thing == HOLDS_ONE && !now.has(k) || thing == HOLDS_SHEET && !isWithin(k, 0, SHEETS - 1)) {
            return BAD;
        }
        if (thing == HOLDS_SHEET && sheets[k].sort == MISSING) {
            return NOTHING;
        }
        Slot into = slots[slot];
        int was = into.thing;
        into.thing = thing;
        if (thing == HOLDS_ONE) {
            into.kind = now.kinds[k];
            into.size = now.sizes[k];
        } else if (thing == HOLDS_SHEET) {
            into.row.takesAfter(sheets[k]);
        } else if (thing == HOLDS_NUMBER) {
            into.number = k;
        }
        return was;
    }

    public int ask(int slot, int kind) {
        int finding = isWithin(kind, 0, KINDS - 1) ? slotFinding(slot, HOLDS_ONE) : BAD;
        if (finding != 0) {
            return finding;
        }
        Slot from = slots[slot];
        return Kinds.isUnder(from.kind, kind) ? Kinds.worth(from.kind, from.size) : KIND;
    }

    public int item(int slot, int place) {
        int finding = slotFinding(slot, HOLDS_SHEET);
        if (finding != 0) {
            return finding;
        }
        Sheet row = slots[slot].row;
        if (!isWithin(place, 0, row.length - 1)) {
            return INDEX;
        }
        return row.cells[place] == NONE ? KIND : row.cells[place];
    }

    public int rest(int slot, int n) {
        int finding = slotFinding(slot, HOLDS_NUMBER);
        if (finding != 0) {
            return finding;
        }
        return n == 0 ? NO : slots[slot].number % n;
    }

    // ---- rows, images

    public int tell(int v) {
        if (waits >= WAITING) {
            return FULL;
        }
        waiting[waits] = v;
        waits++;
        return waits;
    }

    public int check(int n) {
        int many = waits;
        waits = 0;
        if (!isWithin(n, 1, TOLD_DAYS)) {
            return BAD;
        }
        if (!imaged) {
            return NO;
        }
        int right = 2 * Math.min(n, LAST_DAY - image.day);
        thought.takesAfter(image);
        for (int i = 0; i < right; i++) {
            if (i % 2 == 0) {
                thought.live(1);
            }
            int due = i % 2 == 0 ? thought.glances : thought.sizesTogether();
            if (i >= many || waiting[i] != due) {
                return 1 + i;
            }
        }
        return many > right ? 1 + right : 0;
    }

    public int keep() {
        image.takesAfter(now);
        imaged = true;
        return image.people;
    }

    public int back() {
        if (!imaged) {
            return NO;
        }
        now.takesAfter(image);
        return now.people;
    }

    public int count(int what) {
        switch (what) {
            case 0:
                return now.people;
            case 1:
                return now.day;
            case 2:
                return now.rules[CEILING];
            case 3:
                return now.rules[MOVES];
            case 4:
                return now.rules[NOISES];
            case 5:
                return now.texts;
            case 6:
                return waits;
            case 7:
                return reader.bytes;
            case 8:
                return now.z;
            default:
                return BAD;
        }
    }

    private static boolean isWithin(int v, int least, int most) {
        return v >= least && v <= most;
    }

    private static int held(int v, int least, int most) {
        return Math.max(least, Math.min(most, v));
    }

    /** Whether v can be SIZED, NOISE or LOVES (what 2 .. 4) of somebody. */
    private static boolean isValue(int what, int v) {
        switch (what) {
            case 2:
                return isWithin(v, 0, TALLEST);
            case 3:
                return isWithin(v, 0, LOUDEST);
            case 4:
                return isWithin(v, -1, PEOPLE - 1);
            default:
                return false;
        }
    }

    private boolean isSupposable(int one, int n, int what) {
        return now.has(one) && isWithin(n, 1, 60) && isWithin(what, 0, 1);
    }

    /** Behind how many days, 200 at most, one is first of a size from least to most. */
    private int firstDay(int one, int least, int most) {
        thought.takesAfter(now);
        for (int day = 0; day <= 200; day++) {
            if (day > 0) {
                thought.live(1);
            }
            if (isWithin(thought.sizes[one], least, most)) {
                return day;
            }
        }
        return NONE;
    }

    /** Of all that may be supposed: with which one is tallest behind n days (what 0), and how tall (1). */
    private int tallest(int suppose, int one, int n, int what) {
        int best = NONE;
        int size = NONE;
        int last = suppose == SUPPOSE_NOISE ? LOUDEST : suppose == SUPPOSE_LOVE ? now.people - 1 : KINDS - 1;
        int step = suppose == SUPPOSE_NOISE ? NOISE_STEP : 1;
        for (int v = 0; v <= last; v += step) {
            if (suppose == SUPPOSE_LOVE && v == one) {
                continue;
            }
            thought.takesAfter(now);
            thought.supposes(suppose, one, v);
            thought.live(n);
            if (best == NONE || thought.sizes[one] > size) {
                best = v;
                size = thought.sizes[one];
            }
        }
        return what == 0 ? best : size;
    }

    private void addDifferences(Sheet row) {
        for (int one = 0; one < PEOPLE; one++) {
            differences[one] = 0;
        }
        thought.takesAfter(now);
        for (int place = 0; place < row.length; place++) {
            if (place > 0) {
                thought.live(1);
            }
            for (int one = 0; one < now.people && row.cells[place] != NONE; one++) {
                differences[one] += Math.abs(thought.sizes[one] - row.cells[place]);
            }
        }
    }

    /** What refuses a call that needs a sheet; 0: nothing does. */
    private int sheetFinding(int sheet) {
        if (!isWithin(sheet, 0, SHEETS - 1)) {
            return BAD;
        }
        return sheets[sheet].sort == MISSING ? NOTHING : 0;
    }

    /** What refuses a call that needs a thing in a slot; 0: nothing does. */
    private int slotFinding(int slot, int thing) {
        if (!isWithin(slot, 0, SLOTS - 1)) {
            return BAD;
        }
        if (slots[slot].thing == 0) {
            return NOTHING;
        }
        return slots[slot].thing == thing ? 0 : KIND;
    }

    /** What differs from kind to kind. */
    private static final class Kinds {
        static final int[] ABOVE = {-1, ONE, ONE, ACTOR, SPY, ONE};

        static boolean isUnder(int kind, int above) {
            int k = kind;
            for (int i = 0; i < KINDS && k >= 0 && k != above; i++) {
                k = ABOVE[k];
            }
            return k == above;
        }

        static int growth(int kind, int glances) {
            int plain = glances == 0 ? -2 : glances;
            switch (kind) {
                case ACTOR:
                case KING:
                    return 2 * plain;
                case SPY:
                    return plain / 2;
                case MOUSE:
                    return plain / 2 - 1;
                case KEEPER:
                    return 0;
                default:
                    return plain;
            }
        }

        static int pull(int kind, int plain) {
            switch (kind) {
                case ACTOR:
                    return plain + 15;
                case KING:
                    return 2 * (plain + 15);
                case SPY:
                case MOUSE:
                    return plain / 2;
                default:
                    return plain;
            }
        }

        static int worth(int kind, int size) {
            switch (kind) {
                case ACTOR:
                    return size + 5;
                case KING:
                    return 2 * (size + 5);
                case SPY:
                    return 200 - size;
                case MOUSE:
                    return 200 - size - 6;
                case KEEPER:
                    return 3;
                default:
                    return size;
            }
        }
    }

    /** All that an image keeps. */
    private static final class Town {
        final Laws laws;
        final int[] kinds = new int[PEOPLE];
        final int[] places = new int[PEOPLE];
        final int[] sizes = new int[PEOPLE];
        final int[] noises = new int[PEOPLE];
        final int[] loves = new int[PEOPLE];
        // Who looks at each, as sets: not kept, lookAll works it out anew.
        final int[] watchers = new int[PEOPLE];
        final int[] whose = new int[PLACES];
        final int[] rules = {120, 20, 20};
        // The text that counts for each key. Texts are only added, so an older town's are still there.
        final int[] counting = {-1, -1, -1};
        int people = 0;
        int screens = 0;
        int glances = 0;
        int vanished = 0;
        int bumped = 0;
        int day = 0;
        int z = 1;
        int texts = 0;

        Town(Laws laws) {
            this.laws = laws;
            for (int place = 0; place < PLACES; place++) {
                whose[place] = -1;
            }
        }

        void takesAfter(Town other) {
            System.arraycopy(other.kinds, 0, kinds, 0, PEOPLE);
            System.arraycopy(other.places, 0, places, 0, PEOPLE);
            System.arraycopy(other.sizes, 0, sizes, 0, PEOPLE);
            System.arraycopy(other.noises, 0, noises, 0, PEOPLE);
            System.arraycopy(other.loves, 0, loves, 0, PEOPLE);
            System.arraycopy(other.whose, 0, whose, 0, PLACES);
            System.arraycopy(other.rules, 0, rules, 0, RULES);
            System.arraycopy(other.counting, 0, counting, 0, KEYS);
            people = other.people;
            screens = other.screens;
            glances = other.glances;
            vanished = other.vanished;
            bumped = other.bumped;
            day = other.day;
            z = other.z;
            texts = other.texts;
        }

        boolean has(int one) {
            return one >= 0 && one < people;
        }

        boolean isFree(int place) {
            return whose[place] < 0 && (screens >> place & 1) == 0;
        }

        int comes(int kind, int place, int size, int noise, int love) {
            int one = people;
            kinds[one] = kind;
            places[one] = place;
            sizes[one] = size;
            noises[one] = noise;
            loves[one] = love;
            whose[place] = one;
            people = one + 1;
            return one;
        }

        void settle(int one, int place) {
            whose[places[one]] = -1;
            places[one] = place;
            whose[place] = one;
        }

        void supposes(int suppose, int one, int v) {
            if (suppose == SUPPOSE_NOISE) {
                noises[one] = v;
            } else if (suppose == SUPPOSE_LOVE) {
                loves[v] = one;
            } else {
                kinds[one] = v;
            }
        }

        int sizesTogether() {
            int together = 0;
            for (int one = 0; one < people; one++) {
                together += sizes[one];
            }
            return together;
        }

        int draw() {
            z = z * 1103515245 + 12345;
            return z >>> 8;
        }

        /** One more is drawn, if there is room in the list; false, if no place is free. */
        boolean drawsOne() {
            int kind = draw() % KINDS;
            int place = freeFrom(draw() % PLACES);
            int size = 20 + draw() % 60;
            int noise = draw() % 30;
            int love = draw() % 9 - 1;
            if (place < 0 || people >= PEOPLE) {
                return false;
            }
            comes(kind, place, size, noise, love);
            return true;
        }

        int freeFrom(int first) {
            for (int k = 0; k < PLACES; k++) {
                int place = (first + k) % PLACES;
                if (isFree(place)) {
                    return place;
                }
            }
            return -1;
        }

        int seenBy(int one) {
            int row = places[one] / ROW;
            int column = places[one] % ROW;
            return seenAlong(one, -1, column) | seenAlong(one, 1, ROW - 1 - column)
                    | seenAlong(one, -ROW, row) | seenAlong(one, ROW, PLACES / ROW - 1 - row);
        }

        /** Those whom one sees in one direction, so many steps far. */
        int seenAlong(int one, int step, int steps) {
            int seen = 0;
            int between = 0;
            int place = places[one];
            for (int k = 0; k < steps; k++) {
                place += step;
                if ((screens >> place & 1) != 0) {
                    return seen;
                }
                int other = whose[place];
                if (other >= 0) {
                    if (between <= Math.max(sizes[one], sizes[other])) {
                        seen |= 1 << other;
                    }
                    between = Math.max(between, sizes[other]);
                }
            }
            return seen;
        }

        /** At whom one looks; -1: at nobody. */
        int lookOf(int one) {
            if (kinds[one] == KING) {
                return -1;
            }
            int seen = seenBy(one);
            int best = -1;
            int most = -1;
            for (int other = 0; other < people; other++) {
                if ((seen >> other & 1) != 0 && sizes[other] != 0) {
                    int pull = pullOn(one, other) + (loves[one] == other ? 40 : 0);
                    if (pull > most) {
                        best = other;
                        most = pull;
                    }
                }
            }
            return best;
        }

        int pullOn(int one, int other) {
            int from = places[one];
            int to = places[other];
            int far = Math.abs(from / ROW - to / ROW) + Math.abs(from % ROW - to % ROW);
            int text = counting[PULL];
            int plain = text < 0 ? sizes[other] + noises[other] - 3 * far
                    : laws.value(text, sizes[other], noises[other], far);
            return Kinds.pull(kinds[other], Math.max(0, Math.min(499, plain)));
        }

        void lookAll() {
            for (int one = 0; one < people; one++) {
                watchers[one] = 0;
            }
            for (int one = 0; one < people; one++) {
                int other = lookOf(one);
                if (other >= 0) {
                    watchers[other] |= 1 << one;
                }
            }
        }

        int eyesOn(int one) {
            lookAll();
            return Integer.bitCount(watchers[one]);
        }

        void live(int n) {
            for (int k = 0; k < n; k++) {
                lookAll();
                growAll();
                wander();
                clamour();
                day++;
            }
        }

        void growAll() {
            for (int one = 0; one < people; one++) {
                int eyes = Integer.bitCount(watchers[one]);
                int was = sizes[one];
                int size = held(was + Kinds.growth(kinds[one], eyes), 0, TALLEST);
                sizes[one] = size;
                glances += eyes;
                vanished += size == 0 && was != 0 ? 1 : 0;
                bumped += size > rules[CEILING] ? 1 : 0;
            }
        }

        void wander() {
            int lot = draw() % 100;
            if (people == 0 || lot >= rules[MOVES]) {
                return;
            }
            int one = draw() % people;
            int place = draw() % PLACES;
            if (isFree(place)) {
                settle(one, place);
            }
        }

        void clamour() {
            int lot = draw() % 100;
            if (people == 0 || lot >= rules[NOISES]) {
                return;
            }
            int one = draw() % people;
            noises[one] = draw() % 30;
        }
    }

    /** A text as a row in which what is worked on stands ahead of its sign. */
    private static final class Text {
        // Numbers stand as they are, names as -1 .. -3, signs as their byte below 0.
        final int[] row = new int[TAPE];
        int length = 0;
        int key = 0;
        int leaves = 0;

        void adds(int code) {
            if (length < TAPE) {
                row[length] = code;
                length++;
            }
        }
    }

    /** The texts, with one row more for a text that is read when there is no room. */
    private static final class Laws {
        final Text[] texts = new Text[TEXTS + 1];
        final int[] stack = new int[TAPE];

        Laws() {
            for (int i = 0; i <= TEXTS; i++) {
                texts[i] = new Text();
            }
        }

        /** What a text gives, if its key's names, in their order, are a, b and c. */
        int value(int text, int a, int b, int c) {
            Text law = texts[text];
            int top = 0;
            for (int i = 0; i < law.length; i++) {
                int code = law.row[i];
                if (code >= -3 && top < TAPE) {
                    stack[top] = code >= 0 ? code : code == -1 ? a : code == -2 ? b : c;
                    top++;
                } else if (code == -'!' && top > 0) {
                    stack[top - 1] = stack[top - 1] == 0 ? 1 : 0;
                } else if (top > 1) {
                    top--;
                    stack[top - 1] = joined(-code, stack[top - 1], stack[top]);
                }
            }
            return stack[0];
        }

        static int joined(int sign, int a, int b) {
            switch (sign) {
                case '|':
                    return a != 0 || b != 0 ? 1 : 0;
                case '&':
                    return a != 0 && b != 0 ? 1 : 0;
                case '<':
                    return a < b ? 1 : 0;
                case '=':
                    return a == b ? 1 : 0;
                case '>':
                    return a > b ? 1 : 0;
                case '+':
                    return a + b;
                case '-':
                    return a - b;
                case '*':
                    return a * b;
                default:
                    return b == 0 ? 0 : a / b;
            }
        }
    }

    /** The tape, and how it is read as a text. */
    private static final class Reader {
        static final int END = 0, LETTERS = 1, DIGITS = 2, SIGN = 3, WRONG = 4;
        static final int TEST = 2, PIECE = 5, DEEPEST = 8, DIGITS_MOST = 4;

        final byte[] tape = new byte[TAPE];
        int bytes = 0;
        // The word or sign at hand: what it is, its first byte, the byte behind it.
        int sort = END;
        int first = 0;
        int beyond = 0;
        int fault = -1;
        int brackets = 0;
        int nots = 0;

        void takes(int v) {
            for (int shift = 24; shift >= 0 && bytes < TAPE; shift -= 8) {
                tape[bytes] = (byte) (v >> shift);
                bytes++;
            }
        }

        /** Uses the tape up; the place of its fault, or -1. */
        int parse(Text text) {
            sort = END;
            beyond = 0;
            fault = -1;
            brackets = 0;
            nots = 0;
            text.length = 0;
            text.leaves = 0;
            next();
            int key = isWord("pull") ? PULL : isWord("fee") ? FEE : isWord("fine") ? FINE : -1;
            if (key < 0) {
                fails();
            } else {
                text.key = key;
                next();
                level(0, text);
            }
            if (sort != END) {
                fails();
            }
            bytes = 0;
            return fault;
        }

        /** Goes on to the next word or sign; a word that lacks its blank is WRONG. */
        void next() {
            boolean wasWord = sort == LETTERS || sort == DIGITS;
            int from = beyond;
            first = from;
            while (first < bytes && tape[first] == ' ') {
                first++;
            }
            sort = sortAt(first);
            beyond = Math.min(first + 1, bytes);
            boolean isWord = sort == LETTERS || sort == DIGITS;
            while (isWord && beyond < bytes && sortAt(beyond) == sort) {
                beyond++;
            }
            if (wasWord && isWord && first == from) {
                sort = WRONG;
            }
        }

        int sortAt(int place) {
            if (place >= bytes) {
                return END;
            }
            byte b = tape[place];
            return b >= 'a' && b <= 'z' ? LETTERS : b >= '0' && b <= '9' ? DIGITS : SIGN;
        }

        boolean isWord(String word) {
            boolean same = sort == LETTERS && beyond - first == word.length();
            for (int i = 0; same && i < word.length(); i++) {
                same = tape[first + i] == word.charAt(i);
            }
            return same;
        }

        boolean isSign(char sign) {
            return sort == SIGN && tape[first] == sign;
        }

        /** With WRONG at hand nothing goes on, so all levels end. */
        void fails() {
            if (fault < 0) {
                fault = first;
            }
            sort = WRONG;
        }

        static String signsOf(int level) {
            switch (level) {
                case 0:
                    return "|";
                case 1:
                    return "&";
                case TEST:
                    return "<=>";
                case 3:
                    return "+-";
                default:
                    return "*/";
            }
        }

        boolean isSignOf(int level) {
            return sort == SIGN && tape[first] > 0 && signsOf(level).indexOf((char) tape[first]) >= 0;
        }

        private void level(int level, Text text) {
            if (level >= PIECE) {
                piece(text);
                return;
            }
            level(level + 1, text);
            int most = level == TEST ? 1 : TAPE;
            for (int i = 0; i < most && isSignOf(level); i++) {
                int sign = tape[first];
                next();
                level(level + 1, text);
                text.adds(-sign);
            }
        }

        private void piece(Text text) {
            if (sort == DIGITS && beyond - first <= DIGITS_MOST) {
                leaf(text, number());
            } else if (sort == LETTERS && nameOf(text.key) >= 0) {
                leaf(text, -1 - nameOf(text.key));
            } else if (isSign('!') && nots < DEEPEST) {
                nots++;
                next();
                piece(text);
                nots--;
                text.adds(-'!');
            } else if (isSign('(') && brackets < DEEPEST) {
                brackets++;
                next();
                level(0, text);
                brackets--;
                if (isSign(')')) {
                    next();
                } else {
                    fails();
                }
            } else {
                fails();
            }
        }

        void leaf(Text text, int code) {
            text.adds(code);
            text.leaves++;
            next();
        }

        int number() {
            int number = 0;
            for (int i = first; i < beyond; i++) {
                number = number * 10 + tape[i] - '0';
            }
            return number;
        }

        /** Which of the names of a key is at hand; -1: none. */
        int nameOf(int key) {
            if (beyond - first != 1) {
                return -1;
            }
            String names = key == PULL ? "snf" : key == FEE ? "gv" : "sp";
            return names.indexOf((char) tape[first]);
        }
    }

    /** A row of numbers; NONE stands for a place that is no number. */
    private static final class Sheet {
        final int[] cells = new int[CELLS];
        int sort = MISSING;
        int length = 0;

        void clears(int newSort, int newLength) {
            for (int i = 0; i < CELLS; i++) {
                cells[i] = 0;
            }
            sort = newSort;
            length = newLength;
        }

        void takesAfter(Sheet other) {
            System.arraycopy(other.cells, 0, cells, 0, CELLS);
            sort = other.sort;
            length = other.length;
        }

        boolean hasPart(int place, int many) {
            return place >= 0 && many >= 0 && many <= length && place <= length - many;
        }
    }

    /** What a slot holds: thing tells which of the fields counts. */
    private static final class Slot {
        final Sheet row = new Sheet();
        int thing = 0;
        int kind = 0;
        int size = 0;
        int number = 0;
    }
}
