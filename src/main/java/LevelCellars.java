/** Cellars of a hill town, joined by pipes, in which wine finds its level; ../shared/DOC.md says what each call does. */
public final class LevelCellars {
    public static final int BAD = -1000000001;
    public static final int NO = -1000000002;
    public static final int FULL = -1000000003;
    public static final int NONE = -1000000005;
    public static final int NOTHING = -1000000011;
    public static final int KIND = -1000000012;
    public static final int INDEX = -1000000013;
    public static final int SIZE = -1000000014;

    private static final int MOST_CELLARS = 8;
    private static final int MOST_PIPES = 12;
    private static final int SORTS = 3;
    private static final int MOST_WINE = 999;
    private static final int MOST_HOURS = 9999;
    private static final int MOST_RESTLESS_HOURS = 300;
    private static final int DUG_WIDE = 3;
    private static final int MOST_TEXTS = 14;
    private static final int MOST_BYTES = 96;
    private static final int MANY_SHEETS = 4;
    private static final int MOST_PLACES = 24;
    private static final int MOST_FLOAT = 99999;
    private static final int MANY_SLOTS = 5;
    private static final int MOST_WAITING = 60;

    private final Town now;
    private final Town image;
    private final Town thought;
    private boolean imageKept;
    private final Law[] laws;
    private final Reader reader = new Reader();
    private final Sheet[] sheets = new Sheet[MANY_SHEETS];
    private final Slot[] slots = new Slot[MANY_SLOTS];
    private final int[] waiting = new int[MOST_WAITING];
    private int waitingCount;

    public LevelCellars() {
        Law[] rows = new Law[MOST_TEXTS];
        for (int i = 0; i < MOST_TEXTS; i++) {
            rows[i] = new Law();
        }
        for (int i = 0; i < MANY_SHEETS; i++) {
            sheets[i] = new Sheet();
        }
        for (int i = 0; i < MANY_SLOTS; i++) {
            slots[i] = new Slot();
        }
        int[] stack = new int[MOST_BYTES];
        laws = rows;
        now = new Town(rows, stack);
        image = new Town(rows, stack);
        thought = new Town(rows, stack);
    }

    // ---- cellars, pipes

    public int cellar(int kind, int floor, int lip) {
        if (!Kinds.isKind(kind) || !fitsCellar(1, floor) || !fitsCellar(2, lip)) {
            return BAD;
        }
        return now.cellars < MOST_CELLARS ? now.addCellar(kind, floor, lip) : FULL;
    }

    public int told(int cellar, int what) {
        if (!now.hasCellar(cellar)) {
            return BAD;
        }
        switch (what) {
            case 0: return now.kind[cellar];
            case 1: return now.floor[cellar];
            case 2: return now.lip[cellar];
            case 3: return now.fullOf(cellar);
            case 4: return now.high[cellar];
            case 5: return now.levelOf(cellar);
            case 6: return Kinds.loses(now.kind[cellar], now.fullOf(cellar));
            case 7: return Kinds.worth(now.kind[cellar], now.lip[cellar]);
            case 8: case 9: case 10: return now.wine[cellar * SORTS + what - 8];
            default: return BAD;
        }
    }

    public int takes(int cellar, int n) {
        if (!now.hasCellar(cellar) || !within(n, 0, 9999)) {
            return BAD;
        }
        return Kinds.takesIn(now.kind[cellar], n);
    }

    public int as(int cellar, int kind) {
        if (!now.hasCellar(cellar) || !Kinds.isKind(kind)) {
            return BAD;
        }
        return Kinds.isUnder(now.kind[cellar], kind) ? now.lip[cellar] : KIND;
    }

    public int turns(int cellar, int kind) {
        if (!now.hasCellar(cellar) || !Kinds.isKind(kind)) {
            return BAD;
        }
        int was = now.kind[cellar];
        now.kind[cellar] = kind;
        now.refresh(cellar);
        return was;
    }

    public int set(int cellar, int what, int v) {
        if (!now.hasCellar(cellar) || !fitsCellar(what, v)) {
            return BAD;
        }
        int was = told(cellar, what);
        if (what == 1) {
            now.floor[cellar] = v;
        } else if (what == 2) {
            now.lip[cellar] = v;
        } else {
            now.wine[cellar * SORTS + what - 8] = v;
        }
        now.refresh(cellar);
        return was;
    }

    public int pipe(int one, int other, int wide) {
        if (!now.hasCellar(one) || !now.hasCellar(other) || one == other || !within(wide, 1, 9)) {
            return BAD;
        }
        return now.pipes < MOST_PIPES ? now.addPipe(one, other, wide) : FULL;
    }

    public int pipeOf(int pipe, int what) {
        if (!now.hasPipe(pipe)) {
            return BAD;
        }
        switch (what) {
            case 0: return now.one[pipe];
            case 1: return now.other[pipe];
            case 2: return now.wide[pipe];
            case 3: return now.corked[pipe];
            case 4: return now.runs(pipe);
            default: return BAD;
        }
    }

    public int cork(int pipe, int v) {
        if (!now.hasPipe(pipe) || !within(v, 0, 1)) {
            return BAD;
        }
        int was = now.corked[pipe];
        now.corked[pipe] = v;
        return was;
    }

    public int thirst(int v) {
        if (!within(v, 0, 100)) {
            return BAD;
        }
        int was = now.thirst;
        now.thirst = v;
        return was;
    }

    public int deal(int n) {
        if (!within(n, 1, MOST_CELLARS)) {
            return BAD;
        }
        int coming = Math.min(n, MOST_CELLARS - now.cellars);
        for (int i = 0; i < coming; i++) {
            now.drawCellar();
        }
        return coming;
    }

    public int seed(int v) {
        int was = now.z;
        now.z = v;
        return was;
    }

    // ---- hours

    public int hours(int n) {
        if (!within(n, 1, 100)) {
            return BAD;
        }
        int before = now.spilt;
        now.passHours(Math.min(n, MOST_HOURS - now.hour));
        return now.spilt - before;
    }

    public int town(int what) {
        switch (what) {
            case 0: return now.fullOfAll();
            case 1: return now.spilt;
            case 2: return now.runningPipes();
            case 3: return now.filledCellars();
            default: return BAD;
        }
    }

    // ---- what will be

    public int behind(int n, int what) {
        if (!within(n, 0, 100) || !(within(what, 0, 1) || now.hasCellar(what - 2))) {
            return BAD;
        }
        thinkFromNow();
        thought.passHours(n);
        if (what == 0) {
            return thought.fullOfAll();
        }
        return what == 1 ? thought.spilt : thought.fullOf(what - 2);
    }

    public int taste(int cellar, int sort, int n) {
        if (!now.hasCellar(cellar) || !within(sort, 0, SORTS - 1) || !within(n, 0, 100)) {
            return BAD;
        }
        thinkFromNow();
        thought.passHours(n);
        return thought.wine[cellar * SORTS + sort];
    }

    public int rests() {
        thinkFromNow();
        for (int k = 0; k <= MOST_RESTLESS_HOURS; k++) {
            if (thought.runningPipes() == 0) {
                return k;
            }
            thought.oneHour();
        }
        return NONE;
    }

    public int corks(int cellar, int n, int what) {
        if (!now.hasCellar(cellar) || !within(n, 1, 60) || !within(what, 0, 1)) {
            return BAD;
        }
        int best = NONE;
        int most = NONE;
        for (int p = 0; p < now.pipes; p++) {
            if (now.corked[p] == 0) {
                thinkWithCork(p);
                thought.passHours(n);
                int full = thought.fullOf(cellar);
                if (best == NONE || full > most) {
                    best = p;
                    most = full;
                }
            }
        }
        return what == 0 ? best : most;
    }

    public int dig(int n, int what) {
        if (!within(n, 1, 40) || !within(what, 0, 1)) {
            return BAD;
        }
        int best = NONE;
        int least = NONE;
        for (int a = 0; a < now.cellars; a++) {
            for (int b = a + 1; b < now.cellars; b++) {
                if (!now.isJoined(a, b)) {
                    thinkWithPipe(a, b);
                    thought.passHours(n);
                    if (best == NONE || thought.spilt < least) {
                        best = 10 * a + b;
                        least = thought.spilt;
                    }
                }
            }
        }
        return what == 0 ? best : least;
    }

    public int loser(int n, int what) {
        if (!within(n, 1, 60) || !within(what, 0, 1)) {
            return BAD;
        }
        thinkFromNow();
        thought.passHours(n);
        int best = NONE;
        int most = NONE;
        for (int c = 0; c < now.cellars; c++) {
            int lost = now.fullOf(c) - thought.fullOf(c);
            if (best == NONE || lost > most) {
                best = c;
                most = lost;
            }
        }
        return what == 0 ? best : most;
    }

    public int tap(int cellar, int n) {
        if (!now.hasCellar(cellar) || !within(n, 1, 60)) {
            return BAD;
        }
        thinkFromNow();
        thought.passHours(n);
        int asItIs = thought.fullOfAll() - thought.fullOf(cellar);
        thinkFromNow();
        thought.empty(cellar);
        thought.passHours(n);
        return asItIs - (thought.fullOfAll() - thought.fullOf(cellar));
    }

    public int dug(int sheet, int cellar, int what) {
        if (!isSheet(sheet) || !now.hasCellar(cellar) || !within(what, 0, 1)) {
            return BAD;
        }
        Sheet toldLevels = sheets[sheet];
        if (toldLevels.isMissing()) {
            return NOTHING;
        }
        thinkFromNow();
        int best = NONE;
        int least = differenceFromThought(toldLevels, cellar);
        for (int p = 0; p < now.pipes; p++) {
            thinkWithCork(p);
            int difference = differenceFromThought(toldLevels, cellar);
            if (difference < least) {
                best = p;
                least = difference;
            }
        }
        return what == 0 ? best : least;
    }

    public int fee() {
        int law = now.lawOf[Law.FEE];
        return law < 0 ? now.spilt : laws[law].give(now.spilt, now.hour, 0, now.stack);
    }

    public int fine(int cellar) {
        if (!now.hasCellar(cellar)) {
            return BAD;
        }
        int full = now.fullOf(cellar);
        int law = now.lawOf[Law.FINE];
        return law < 0 ? full : laws[law].give(full, now.levelOf(cellar), 0, now.stack);
    }

    // ---- texts

    public int feed(int a, int b, int c) {
        if (reader.length > MOST_BYTES - 12) {
            return FULL;
        }
        reader.takeFour(a);
        reader.takeFour(b);
        reader.takeFour(c);
        return reader.length;
    }

    public int trim(int n) {
        if (!within(n, 0, reader.length)) {
            return BAD;
        }
        reader.length = n;
        return n;
    }

    public int text() {
        int fault = reader.read();
        reader.length = 0;
        if (fault >= 0) {
            return -100 - fault;
        }
        if (now.texts >= MOST_TEXTS) {
            return FULL;
        }
        int number = now.texts;
        // No image has a text of this number: it has at most as many as there are now.
        laws[number].become(reader.draft);
        now.addText(reader.draft.key);
        return number;
    }

    public int textTold(int text, int what) {
        if (!within(text, 0, now.texts - 1) || !within(what, 0, 1)) {
            return BAD;
        }
        return what == 0 ? laws[text].key : laws[text].leaves;
    }

    public int why(int key) {
        if (!within(key, 0, Law.KEYS - 1)) {
            return BAD;
        }
        return now.lawOf[key] < 0 ? NONE : now.lawOf[key];
    }

    // ---- sheets, slots

    public int sheet(int sheet, int sort, int n) {
        if (!isSheet(sheet) || !within(sort, Sheet.MISSING, Sheet.FLOATS)) {
            return BAD;
        }
        int places = sort == Sheet.MISSING ? 0 : n;
        if (places > MOST_PLACES) {
            return BAD;
        }
        if (places < 0) {
            return SIZE;
        }
        sheets[sheet].clear(sort, places);
        return places;
    }

    public int mark(int sheet, int place, int v) {
        if (!isSheet(sheet)) {
            return BAD;
        }
        Sheet row = sheets[sheet];
        if (row.isMissing()) {
            return NOTHING;
        }
        if (!row.hasPlace(place)) {
            return INDEX;
        }
        if (row.sort == Sheet.SHORTS && v == NONE) {
            return KIND;
        }
        if (row.sort == Sheet.FLOATS && v != NONE && !within(v, -MOST_FLOAT, MOST_FLOAT)) {
            return BAD;
        }
        row.places[place] = row.sort == Sheet.SHORTS ? (short) v : v;
        return 1;
    }

    public int pour(int sheet) {
        if (!isSheet(sheet)) {
            return BAD;
        }
        Sheet row = sheets[sheet];
        if (row.isMissing()) {
            return NOTHING;
        }
        int otherwise = 0;
        for (int c = 0; c < now.cellars; c++) {
            if (row.hasNumber(c)) {
                int was = now.wine[c * SORTS];
                int v = Math.max(0, Math.min(MOST_WINE, row.places[c]));
                now.wine[c * SORTS] = v;
                now.refresh(c);
                otherwise += v == was ? 0 : 1;
            }
        }
        return otherwise;
    }

    public int reads(int sheet) {
        if (!isSheet(sheet)) {
            return BAD;
        }
        Sheet row = sheets[sheet];
        if (row.isMissing()) {
            return NOTHING;
        }
        for (int i = 0; i < row.size; i++) {
            if (row.hasNumber(i) && !(now.hasCellar(i) && row.places[i] == now.levelOf(i))) {
                return i;
            }
        }
        return NONE;
    }

    public int copy(int from, int place, int to, int at, int many) {
        if (!isSheet(from) || !isSheet(to)) {
            return BAD;
        }
        Sheet source = sheets[from];
        Sheet target = sheets[to];
        if (source.isMissing() || target.isMissing()) {
            return NOTHING;
        }
        if (source.sort != target.sort) {
            return KIND;
        }
        if (!source.hasPlaces(place, many) || !target.hasPlaces(at, many)) {
            return INDEX;
        }
        System.arraycopy(source.places, place, target.places, at, many);
        return many;
    }

    public int lay(int slot, int thing, int k) {
        if (!isSlot(slot) || !within(thing, Slot.EMPTY, Slot.NUMBER)
                || thing == Slot.CELLAR && !now.hasCellar(k) || thing == Slot.SHEET && !isSheet(k)) {
            return BAD;
        }
        if (thing == Slot.SHEET && sheets[k].isMissing()) {
            return NOTHING;
        }
        Slot place = slots[slot];
        int was = place.thing;
        place.thing = thing;
        if (thing == Slot.CELLAR) {
            place.kind = now.kind[k];
            place.lip = now.lip[k];
        } else if (thing == Slot.SHEET) {
            place.sheet.become(sheets[k]);
        } else {
            place.number = k;
        }
        return was;
    }

    public int ask(int slot, int kind) {
        if (!isSlot(slot) || !Kinds.isKind(kind)) {
            return BAD;
        }
        Slot held = slots[slot];
        if (held.thing == Slot.EMPTY) {
            return NOTHING;
        }
        if (held.thing != Slot.CELLAR || !Kinds.isUnder(held.kind, kind)) {
            return KIND;
        }
        return Kinds.worth(held.kind, held.lip);
    }

    public int item(int slot, int place) {
        if (!isSlot(slot)) {
            return BAD;
        }
        Slot held = slots[slot];
        if (held.thing == Slot.EMPTY) {
            return NOTHING;
        }
        if (held.thing != Slot.SHEET) {
            return KIND;
        }
        if (!held.sheet.hasPlace(place)) {
            return INDEX;
        }
        return held.sheet.hasNumber(place) ? held.sheet.places[place] : KIND;
    }

    public int rest(int slot, int n) {
        if (!isSlot(slot)) {
            return BAD;
        }
        Slot held = slots[slot];
        if (held.thing == Slot.EMPTY) {
            return NOTHING;
        }
        if (held.thing != Slot.NUMBER) {
            return KIND;
        }
        return n == 0 ? NO : held.number % n;
    }

    // ---- rows, images

    public int tell(int v) {
        if (waitingCount >= MOST_WAITING) {
            return FULL;
        }
        waiting[waitingCount] = v;
        waitingCount++;
        return waitingCount;
    }

    public int check(int n) {
        int many = waitingCount;
        waitingCount = 0;
        if (!within(n, 1, 30)) {
            return BAD;
        }
        if (!imageKept) {
            return NO;
        }
        int hours = Math.min(n, MOST_HOURS - image.hour);
        thought.become(image);
        for (int k = 0; k < hours; k++) {
            thought.oneHour();
            if (!waits(2 * k, many, thought.fullOfAll())) {
                return 1 + 2 * k;
            }
            if (!waits(2 * k + 1, many, thought.spilt)) {
                return 2 + 2 * k;
            }
        }
        return many > 2 * hours ? 1 + 2 * hours : 0;
    }

    public int keep() {
        image.become(now);
        imageKept = true;
        return now.cellars;
    }

    public int back() {
        if (!imageKept) {
            return NO;
        }
        now.become(image);
        return now.cellars;
    }

    public int count(int what) {
        switch (what) {
            case 0: return now.cellars;
            case 1: return now.pipes;
            case 2: return now.hour;
            case 3: return now.thirst;
            case 4: return now.corkedPipes();
            case 5: return now.texts;
            case 6: return waitingCount;
            case 7: return reader.length;
            case 8: return now.z;
            default: return BAD;
        }
    }

    // ---- what the calls share

    private static boolean within(int v, int least, int most) {
        return v >= least && v <= most;
    }

    /** Whether what told() tells of a cellar may be made v. */
    private static boolean fitsCellar(int what, int v) {
        switch (what) {
            case 1: return within(v, 0, 99);
            case 2: return within(v, 1, 99);
            case 8: case 9: case 10: return within(v, 0, MOST_WINE);
            default: return false;
        }
    }

    private static boolean isSheet(int sheet) {
        return within(sheet, 0, MANY_SHEETS - 1);
    }

    private static boolean isSlot(int slot) {
        return within(slot, 0, MANY_SLOTS - 1);
    }

    private boolean waits(int place, int many, int v) {
        return place < many && waiting[place] == v;
    }

    private void thinkFromNow() {
        thought.become(now);
    }

    private void thinkWithCork(int pipe) {
        thought.become(now);
        thought.corked[pipe] = 1;
    }

    private void thinkWithPipe(int a, int b) {
        thought.become(now);
        thought.addPipe(a, b, DUG_WIDE);
    }

    /** By how much a cellar's levels, hour by hour as thought, differ from a sheet's numbers. */
    private int differenceFromThought(Sheet levels, int cellar) {
        int sum = 0;
        for (int k = 0; k < levels.size; k++) {
            if (k > 0) {
                thought.oneHour();
            }
            if (levels.hasNumber(k)) {
                sum += Math.abs(thought.levelOf(cellar) - levels.places[k]);
            }
        }
        return sum;
    }

    /** What a cellar does by its kind; a kind that is not named does as the one above it. */
    private static final class Kinds {
        static final int CELLAR = 0;
        static final int DEEP = 1;
        static final int LEAKY = 2;
        static final int VAULT = 3;
        static final int CHURCH = 4;
        static final int SEALED = 5;
        static final int MANY = 6;
        static final int[] ABOVE = {-1, CELLAR, CELLAR, DEEP, LEAKY, CELLAR};

        static boolean isKind(int kind) {
            return kind >= 0 && kind < MANY;
        }

        /** Whether a kind is another one or stands under it. */
        static boolean isUnder(int kind, int upper) {
            int k = kind;
            for (int steps = 0; steps < MANY && isKind(k); steps++) {
                if (k == upper) {
                    return true;
                }
                k = ABOVE[k];
            }
            return false;
        }

        static int high(int kind, int asCellar, int full) {
            switch (kind) {
                case DEEP: return asCellar / 2;
                case VAULT: return Math.max(0, asCellar / 2 - 2);
                case LEAKY: case CHURCH: return full > 0 ? asCellar + 1 : asCellar;
                case SEALED: return 0;
                default: return asCellar;
            }
        }

        static int loses(int kind, int full) {
            switch (kind) {
                case LEAKY: return full / 20;
                case CHURCH: return Math.max(0, full / 20 - 1);
                default: return 0;
            }
        }

        static int takesIn(int kind, int n) {
            switch (kind) {
                case VAULT: return n / 2;
                case SEALED: return 0;
                default: return n;
            }
        }

        static int worth(int kind, int lip) {
            switch (kind) {
                case DEEP: return lip + 6;
                case VAULT: return 2 * (lip + 6);
                case LEAKY: return 99 - lip;
                case CHURCH: return 99 - lip - 8;
                case SEALED: return 3;
                default: return lip;
            }
        }
    }

    /** All that an image keeps: cellars, pipes, what was spilt, thirst, the hour, z and which texts count. */
    private static final class Town {
        private static final int MOST_HIGH = 999;
        private static final int SIP = 5;
        // Where drops go that come to no cellar.
        private static final int SPILT = -1;
        private static final int DRUNK = -2;

        final int[] kind = new int[MOST_CELLARS];
        final int[] floor = new int[MOST_CELLARS];
        final int[] lip = new int[MOST_CELLARS];
        final int[] wine = new int[MOST_CELLARS * SORTS];
        // Worked out when a cellar changes: a text may make it dear, and each hour looks at it often.
        final int[] high = new int[MOST_CELLARS];
        int cellars;
        // One more than may be told: dig() thinks of a thirteenth.
        final int[] one = new int[MOST_PIPES + 1];
        final int[] other = new int[MOST_PIPES + 1];
        final int[] wide = new int[MOST_PIPES + 1];
        final int[] corked = new int[MOST_PIPES + 1];
        int pipes;
        int spilt;
        int thirst;
        int hour;
        int z = 1;
        int texts;
        final int[] lawOf = {-1, -1, -1};
        final Law[] laws;
        final int[] stack;
        private final int[] share = new int[SORTS];

        Town(Law[] laws, int[] stack) {
            this.laws = laws;
            this.stack = stack;
        }

        void become(Town from) {
            System.arraycopy(from.kind, 0, kind, 0, MOST_CELLARS);
            System.arraycopy(from.floor, 0, floor, 0, MOST_CELLARS);
            System.arraycopy(from.lip, 0, lip, 0, MOST_CELLARS);
            System.arraycopy(from.wine, 0, wine, 0, MOST_CELLARS * SORTS);
            System.arraycopy(from.high, 0, high, 0, MOST_CELLARS);
            cellars = from.cellars;
            System.arraycopy(from.one, 0, one, 0, MOST_PIPES);
            System.arraycopy(from.other, 0, other, 0, MOST_PIPES);
            System.arraycopy(from.wide, 0, wide, 0, MOST_PIPES);
            System.arraycopy(from.corked, 0, corked, 0, MOST_PIPES);
            pipes = from.pipes;
            spilt = from.spilt;
            thirst = from.thirst;
            hour = from.hour;
            z = from.z;
            texts = from.texts;
            System.arraycopy(from.lawOf, 0, lawOf, 0, Law.KEYS);
        }

        boolean hasCellar(int cellar) {
            return cellar >= 0 && cellar < cellars;
        }

        boolean hasPipe(int pipe) {
            return pipe >= 0 && pipe < pipes;
        }

        /** There must be room for it. */
        int addCellar(int itsKind, int itsFloor, int itsLip) {
            int c = cellars;
            cellars++;
            kind[c] = itsKind;
            floor[c] = itsFloor;
            lip[c] = itsLip;
            empty(c);
            return c;
        }

        /** There must be room for it. */
        int addPipe(int itsOne, int itsOther, int itsWide) {
            int p = pipes;
            pipes++;
            one[p] = itsOne;
            other[p] = itsOther;
            wide[p] = itsWide;
            corked[p] = 0;
            return p;
        }

        void addText(int key) {
            lawOf[key] = texts;
            texts++;
            if (key == Law.HIGH) {
                for (int c = 0; c < cellars; c++) {
                    refresh(c);
                }
            }
        }

        void empty(int cellar) {
            for (int s = 0; s < SORTS; s++) {
                wine[cellar * SORTS + s] = 0;
            }
            refresh(cellar);
        }

        int fullOf(int cellar) {
            int at = cellar * SORTS;
            return wine[at] + wine[at + 1] + wine[at + 2];
        }

        int fullOfAll() {
            int sum = 0;
            for (int c = 0; c < cellars; c++) {
                sum += fullOf(c);
            }
            return sum;
        }

        int levelOf(int cellar) {
            return floor[cellar] + high[cellar];
        }

        /** To be called whenever kind, lip or wine of a cellar, or the text of high, is another one. */
        void refresh(int cellar) {
            int full = fullOf(cellar);
            int law = lawOf[Law.HIGH];
            int given = law < 0 ? full / 10 : laws[law].give(full, lip[cellar], wine[cellar * SORTS], stack);
            high[cellar] = Kinds.high(kind[cellar], Math.max(0, Math.min(MOST_HIGH, given)), full);
        }

        /** The one of a pipe's two cellars with the higher level. */
        int upperOf(int pipe) {
            return levelOf(one[pipe]) >= levelOf(other[pipe]) ? one[pipe] : other[pipe];
        }

        int farEndOf(int pipe, int nearEnd) {
            return one[pipe] + other[pipe] - nearEnd;
        }

        int runs(int pipe) {
            return runsFrom(upperOf(pipe), pipe);
        }

        /** What runs through a pipe, told which of its cellars is the upper one. */
        private int runsFrom(int upper, int pipe) {
            if (corked[pipe] != 0) {
                return 0;
            }
            int lower = farEndOf(pipe, upper);
            int pressed = wide[pipe] * (levelOf(upper) - levelOf(lower)) / 2;
            return Kinds.takesIn(kind[lower], Math.min(pressed, fullOf(upper)));
        }

        int runningPipes() {
            int many = 0;
            for (int p = 0; p < pipes; p++) {
                many += runs(p) > 0 ? 1 : 0;
            }
            return many;
        }

        int corkedPipes() {
            int many = 0;
            for (int p = 0; p < pipes; p++) {
                many += corked[p];
            }
            return many;
        }

        int filledCellars() {
            int set = 0;
            for (int c = 0; c < cellars; c++) {
                if (fullOf(c) > 0) {
                    set |= 1 << c;
                }
            }
            return set;
        }

        boolean isJoined(int a, int b) {
            for (int p = 0; p < pipes; p++) {
                if (one[p] == a && other[p] == b || one[p] == b && other[p] == a) {
                    return true;
                }
            }
            return false;
        }

        void passHours(int n) {
            for (int i = 0; i < n; i++) {
                oneHour();
            }
        }

        void oneHour() {
            for (int p = 0; p < pipes; p++) {
                int upper = upperOf(p);
                lead(upper, runsFrom(upper, p), farEndOf(p, upper));
            }
            for (int c = 0; c < cellars; c++) {
                lead(c, Kinds.loses(kind[c], fullOf(c)), SPILT);
            }
            for (int c = 0; c < cellars; c++) {
                if (high[c] > lip[c]) {
                    lead(c, fullOf(c) / 4 + 1, SPILT);
                }
            }
            if (draw() % 100 < thirst && cellars > 0) {
                lead(draw() % cellars, SIP, DRUNK);
            }
            hour++;
        }

        /** Leads drops, no more than there are, out of a cellar and into another one, or where none is. */
        private void lead(int from, int most, int to) {
            int full = fullOf(from);
            int n = Math.min(most, full);
            if (n <= 0) {
                return;
            }
            int lacking = n;
            for (int s = 0; s < SORTS; s++) {
                // A long: what stands in one cellar has no bound that keeps the product an int.
                share[s] = (int) ((long) wine[from * SORTS + s] * n / full);
                lacking -= share[s];
            }
            for (int s = 0; s < SORTS; s++) {
                int more = Math.min(lacking, wine[from * SORTS + s] - share[s]);
                lacking -= more;
                wine[from * SORTS + s] -= share[s] + more;
                if (to >= 0) {
                    wine[to * SORTS + s] += share[s] + more;
                }
            }
            refresh(from);
            if (to >= 0) {
                refresh(to);
            } else if (to == SPILT) {
                spilt += n;
            }
        }

        private int draw() {
            z = z * 1103515245 + 12345;
            return z >>> 8;
        }

        /** There must be room for it. */
        void drawCellar() {
            int itsKind = draw() % Kinds.MANY;
            int itsFloor = draw() % 60;
            int itsLip = 1 + draw() % 60;
            int c = addCellar(itsKind, itsFloor, itsLip);
            wine[c * SORTS + c % SORTS] = draw() % 300;
            refresh(c);
        }
    }

    /** A text, as a row of numbers, names and signs, each sign behind what it works on. */
    private static final class Law {
        static final int HIGH = 0;
        static final int FEE = 1;
        static final int FINE = 2;
        static final int KEYS = 3;
        // Numbers stand in the row as they are, below all names; names stand below all signs.
        static final int FIRST_NAME = 10000;
        static final int FIRST_SIGN = 20000;

        int key;
        int leaves;
        private int size;
        private final int[] row = new int[MOST_BYTES];

        void clear() {
            key = HIGH;
            leaves = 0;
            size = 0;
        }

        void become(Law from) {
            key = from.key;
            leaves = from.leaves;
            size = from.size;
            System.arraycopy(from.row, 0, row, 0, from.size);
        }

        void addNumber(int v) {
            leaves++;
            add(v);
        }

        void addName(int index) {
            leaves++;
            add(FIRST_NAME + index);
        }

        void addSign(int sign) {
            add(FIRST_SIGN + sign);
        }

        private void add(int v) {
            if (size < MOST_BYTES) {
                row[size] = v;
                size++;
            }
        }

        /** What it gives, a, b and c being what its key's names stand for. */
        int give(int a, int b, int c, int[] stack) {
            int top = 0;
            for (int i = 0; i < size && top < stack.length; i++) {
                int v = row[i];
                if (v < FIRST_NAME) {
                    stack[top] = v;
                    top++;
                } else if (v < FIRST_SIGN) {
                    stack[top] = v == FIRST_NAME ? a : v == FIRST_NAME + 1 ? b : c;
                    top++;
                } else if (v == FIRST_SIGN + '!') {
                    if (top > 0) {
                        stack[top - 1] = stack[top - 1] == 0 ? 1 : 0;
                    }
                } else if (top > 1) {
                    top--;
                    stack[top - 1] = joined(v - FIRST_SIGN, stack[top - 1], stack[top]);
                }
            }
            return top > 0 ? stack[0] : 0;
        }

        private static int joined(int sign, int x, int y) {
            switch (sign) {
                case '|': return x != 0 || y != 0 ? 1 : 0;
                case '&': return x != 0 && y != 0 ? 1 : 0;
                case '<': return x < y ? 1 : 0;
                case '=': return x == y ? 1 : 0;
                case '>': return x > y ? 1 : 0;
                case '+': return x + y;
                case '-': return x - y;
                case '*': return x * y;
                default: return y == 0 ? 0 : x / y;
            }
        }
    }

    /** The tape, and the reading of it as a text. */
    private static final class Reader {
        private static final int MOST_OPEN = 8;
        private static final int MOST_DIGITS = 4;
        private static final int SIGN = 0;
        private static final int LETTERS = 1;
        private static final int DIGITS = 2;
        // How loosely signs bind: | & tests sums terms, then pieces.
        private static final int LOOSEST = 0;
        private static final int TEST = 2;
        private static final int PIECE = 5;

        int length;
        final Law draft = new Law();
        private final int[] tape = new int[MOST_BYTES];
        // The word or sign that comes next: its first byte, and the place behind its last.
        private int from;
        private int end;
        private boolean glued;
        private int fault;

        void takeFour(int v) {
            for (int shift = 24; shift >= 0 && length < MOST_BYTES; shift -= 8) {
                tape[length] = v >>> shift & 255;
                length++;
            }
        }

        /** The place of the tape's fault; -1: it is a text, and the draft holds it. */
        int read() {
            draft.clear();
            fault = -1;
            end = 0;
            step();
            readKey();
            readPart(LOOSEST, 0, 0);
            if (fault < 0 && from < length) {
                fault = from;
            }
            return fault;
        }

        private void readKey() {
            if (isWord("high")) {
                draft.key = Law.HIGH;
            } else if (isWord("fee")) {
                draft.key = Law.FEE;
            } else if (isWord("fine")) {
                draft.key = Law.FINE;
            } else {
                fault = from;
                return;
            }
            step();
        }

        /** Reads what signs of a looseness, or none of them, join; open, nots: how many ( and ! it stands in. */
        private void readPart(int looseness, int open, int nots) {
            if (looseness >= PIECE) {
                readPiece(open, nots);
                return;
            }
            readPart(looseness + 1, open, nots);
            for (int i = 0; i < MOST_BYTES && fault < 0 && loosenessOf(head()) == looseness; i++) {
                int sign = head();
                step();
                readPart(looseness + 1, open, nots);
                draft.addSign(sign);
                if (looseness == TEST) {
                    return;
                }
            }
        }

        private void readPiece(int open, int nots) {
            int first = head();
            if (fault >= 0) {
                return;
            }
            if (sortOf(first) == DIGITS) {
                readNumber();
            } else if (sortOf(first) == LETTERS) {
                readName();
            } else if (first == '!' && nots < MOST_OPEN) {
                step();
                readPiece(open, nots + 1);
                draft.addSign('!');
            } else if (first == '(' && open < MOST_OPEN) {
                step();
                readPart(LOOSEST, open + 1, nots);
                readClosing();
            } else {
                fault = from;
            }
        }

        private void readNumber() {
            if (glued || end - from > MOST_DIGITS) {
                fault = from;
                return;
            }
            int v = 0;
            for (int i = from; i < end; i++) {
                v = v * 10 + tape[i] - '0';
            }
            draft.addNumber(v);
            step();
        }

        private void readName() {
            int index = namesOf(draft.key).indexOf((char) head());
            if (glued || end - from != 1 || index < 0) {
                fault = from;
                return;
            }
            draft.addName(index);
            step();
        }

        private void readClosing() {
            if (fault >= 0) {
                return;
            }
            if (head() == ')') {
                step();
            } else {
                fault = from;
            }
        }

        /** Goes on to the next word or sign; at the end it is of no bytes. */
        private void step() {
            int before = end;
            from = before;
            while (from < length && tape[from] == ' ') {
                from++;
            }
            int sort = sortOf(head());
            glued = sort != SIGN && from == before && before > 0 && sortOf(tape[before - 1]) != SIGN;
            end = Math.min(from + 1, length);
            while (sort != SIGN && end < length && sortOf(tape[end]) == sort) {
                end++;
            }
        }

        /** The first byte of the next word or sign; -1 at the end. */
        private int head() {
            return from < length ? tape[from] : -1;
        }

        private boolean isWord(String word) {
            if (end - from != word.length()) {
                return false;
            }
            for (int i = 0; i < word.length(); i++) {
                if (tape[from + i] != word.charAt(i)) {
                    return false;
                }
            }
            return true;
        }

        private static int sortOf(int sign) {
            if (sign >= 'a' && sign <= 'z') {
                return LETTERS;
            }
            return sign >= '0' && sign <= '9' ? DIGITS : SIGN;
        }

        private static String namesOf(int key) {
            switch (key) {
                case Law.HIGH: return "flw";
                case Law.FEE: return "sh";
                default: return "wl";
            }
        }

        private static int loosenessOf(int sign) {
            switch (sign) {
                case '|': return LOOSEST;
                case '&': return 1;
                case '<': case '=': case '>': return TEST;
                case '+': case '-': return 3;
                case '*': case '/': return 4;
                default: return -1;
            }
        }
    }

    /** A row of shorts or of floats; both are whole, so that ints hold them, and NONE stands for no number. */
    private static final class Sheet {
        static final int MISSING = -1;
        static final int SHORTS = 0;
        static final int FLOATS = 1;

        int sort = MISSING;
        int size;
        final int[] places = new int[MOST_PLACES];

        boolean isMissing() {
            return sort == MISSING;
        }

        boolean hasPlace(int place) {
            return place >= 0 && place < size;
        }

        /** Whether there are so many places from one on; none may stand behind the last. */
        boolean hasPlaces(int place, int many) {
            return place >= 0 && many >= 0 && many <= size && place <= size - many;
        }

        boolean hasNumber(int place) {
            return hasPlace(place) && places[place] != NONE;
        }

        void clear(int itsSort, int itsSize) {
            sort = itsSort;
            size = itsSize;
            for (int i = 0; i < MOST_PLACES; i++) {
                places[i] = 0;
            }
        }

        void become(Sheet from) {
            sort = from.sort;
            size = from.size;
            System.arraycopy(from.places, 0, places, 0, MOST_PLACES);
        }
    }

    /** What was laid in a slot; of a cellar that which its worth needs. */
    private static final class Slot {
        static final int EMPTY = 0;
        static final int CELLAR = 1;
        static final int SHEET = 2;
        static final int NUMBER = 3;

        int thing = EMPTY;
        int kind;
        int lip;
        int number;
        final Sheet sheet = new Sheet();
    }
}
