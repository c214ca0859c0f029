/** For each promise of the document some calls with the answers that are due, worked out by hand. */
public final class PromisesTest {
    private static final int BAD = LevelCellars.BAD;
    private static final int NO = LevelCellars.NO;
    private static final int FULL = LevelCellars.FULL;
    private static final int NONE = LevelCellars.NONE;
    private static final int NOTHING = LevelCellars.NOTHING;
    private static final int KIND = LevelCellars.KIND;
    private static final int INDEX = LevelCellars.INDEX;
    private static final int SIZE = LevelCellars.SIZE;
    private static final int MIN = Integer.MIN_VALUE;
    private static final int MAX = Integer.MAX_VALUE;

    private static int wrong = 0;
    private static int calls = 0;
    private static int promise = 0;

    private static void due(String call, int got, int want) {
        calls++;
        if (got != want) {
            wrong++;
            System.out.println("promise " + promise + ": " + call + " answered " + got + ", due is " + want);
        }
    }

    /** Feeds a text, filled up with blanks that trim() takes away. */
    private static void feed(LevelCellars x, String text) {
        int before = x.count(7);
        StringBuilder filled = new StringBuilder(text);
        while (filled.length() % 12 != 0) {
            filled.append(' ');
        }
        for (int i = 0; i < filled.length(); i += 12) {
            int[] v = new int[3];
            for (int k = 0; k < 12; k++) {
                v[k / 4] = v[k / 4] << 8 | filled.charAt(i + k) & 255;
            }
            x.feed(v[0], v[1], v[2]);
        }
        x.trim(before + text.length());
    }

    private static int text(LevelCellars x, String text) {
        feed(x, text);
        return x.text();
    }

    private static LevelCellars withCellars(int... kinds) {
        LevelCellars x = new LevelCellars();
        for (int kind : kinds) {
            x.cellar(kind, 10, 20);
        }
        return x;
    }

    private static void wine(LevelCellars x, int cellar, int a, int b, int c) {
        x.set(cellar, 8, a);
        x.set(cellar, 9, b);
        x.set(cellar, 10, c);
    }

    public static void main(String[] args) {
        newObject();
        cellars();
        toldOfKinds();
        takesAsTurns();
        sets();
        pipes();
        runsThroughPipes();
        corksThirstSeed();
        deals();
        hours();
        sortsThatGo();
        drinking();
        town();
        behindTasteRests();
        corks();
        digs();
        loserTap();
        dug();
        feeFine();
        tape();
        textsRead();
        textsGive();
        textsToldWhy();
        faults();
        sheets();
        pourReads();
        copies();
        slots();
        checks();
        images();
        counts();
        System.out.println(calls + " calls looked at, " + wrong + " not as due");
        if (wrong != 0) {
            System.exit(1);
        }
    }

    private static void newObject() {
        promise = 1;
        LevelCellars x = new LevelCellars();
        int[] first = {0, 0, 0, 0, 0, 0, 0, 0, 1};
        for (int what = 0; what < first.length; what++) {
            due("count(" + what + ")", x.count(what), first[what]);
        }
        due("town(0)", x.town(0), 0);
        due("town(1)", x.town(1), 0);
        due("town(2)", x.town(2), 0);
        due("town(3)", x.town(3), 0);
        due("told(0, 0)", x.told(0, 0), BAD);
        due("pipeOf(0, 0)", x.pipeOf(0, 0), BAD);
        due("back()", x.back(), NO);
        for (int key = 0; key < 3; key++) {
            due("why(" + key + ")", x.why(key), NONE);
        }
        for (int sheet = 0; sheet < 4; sheet++) {
            due("reads(" + sheet + ")", x.reads(sheet), NOTHING);
        }
        for (int slot = 0; slot < 5; slot++) {
            due("rest(" + slot + ", 1)", x.rest(slot, 1), NOTHING);
        }
    }

    private static void cellars() {
        promise = 2;
        LevelCellars x = new LevelCellars();
        due("kind -1", x.cellar(-1, 0, 1), BAD);
        due("kind 6", x.cellar(6, 0, 1), BAD);
        due("floor -1", x.cellar(0, -1, 1), BAD);
        due("floor 100", x.cellar(0, 100, 1), BAD);
        due("lip 0", x.cellar(0, 0, 0), BAD);
        due("lip 100", x.cellar(0, 0, 100), BAD);
        due("all far off", x.cellar(MIN, MAX, MIN), BAD);
        due("none came", x.count(0), 0);
        for (int i = 0; i < 8; i++) {
            due("cellar " + i, x.cellar(i % 6, i % 2 * 99, 1 + i % 2 * 98), i);
            due("kind", x.told(i, 0), i % 6);
            due("floor", x.told(i, 1), i % 2 * 99);
            due("lip", x.told(i, 2), 1 + i % 2 * 98);
            due("no wine", x.told(i, 3), 0);
        }
        due("a ninth", x.cellar(0, 0, 1), FULL);
        due("a bad ninth", x.cellar(0, 0, 0), BAD);
        due("eight", x.count(0), 8);
    }

    private static void toldOfKinds() {
        promise = 3;
        LevelCellars x = withCellars(0, 1, 2, 3, 4, 5);
        for (int c = 0; c < 6; c++) {
            wine(x, c, 100, 9, 1);
        }
        int[] high = {11, 5, 12, 3, 12, 0};
        int[] loses = {0, 0, 5, 0, 4, 0};
        int[] worth = {20, 26, 79, 52, 71, 3};
        for (int c = 0; c < 6; c++) {
            due("KIND of " + c, x.told(c, 0), c);
            due("FLOOR of " + c, x.told(c, 1), 10);
            due("LIP of " + c, x.told(c, 2), 20);
            due("FULL of " + c, x.told(c, 3), 110);
            due("HIGH of " + c, x.told(c, 4), high[c]);
            due("LEVEL of " + c, x.told(c, 5), 10 + high[c]);
            due("LOSES of " + c, x.told(c, 6), loses[c]);
            due("WORTH of " + c, x.told(c, 7), worth[c]);
            due("WINE 0 of " + c, x.told(c, 8), 100);
            due("WINE 1 of " + c, x.told(c, 9), 9);
            due("WINE 2 of " + c, x.told(c, 10), 1);
            due("what 11", x.told(c, 11), BAD);
            due("what -1", x.told(c, -1), BAD);
        }
        due("cellar -1", x.told(-1, 0), BAD);
        due("cellar 6", x.told(6, 0), BAD);
        due("cellar MIN", x.told(MIN, MAX), BAD);
        for (int c = 0; c < 6; c++) {
            wine(x, c, 0, 0, 0);
            due("HIGH without wine of " + c, x.told(c, 4), 0);
            due("LOSES without wine of " + c, x.told(c, 6), 0);
            wine(x, c, 0, 9, 0);
            due("HIGH of a little in " + c, x.told(c, 4), c == 2 || c == 4 ? 1 : 0);
            wine(x, c, 0, 1, 0);
            due("HIGH of one drop in " + c, x.told(c, 4), c == 2 || c == 4 ? 1 : 0);
            wine(x, c, 0, 0, 39);
            due("LOSES of 39 in " + c, x.told(c, 6), c == 2 ? 1 : 0);
            wine(x, c, 0, 0, 40);
            due("LOSES of 40 in " + c, x.told(c, 6), c == 2 ? 2 : c == 4 ? 1 : 0);
        }
        wine(x, 3, 30, 10, 0);
        due("a VAULT of 40 is not below 0", x.told(3, 4), 0);
        wine(x, 3, 40, 20, 0);
        due("a VAULT of 60", x.told(3, 4), 1);
        x.set(4, 2, 99);
        due("WORTH of a CHURCH may be below 0", x.told(4, 7), -8);
    }

    private static void takesAsTurns() {
        promise = 4;
        LevelCellars x = withCellars(0, 1, 2, 3, 4, 5);
        int[] takes = {9, 9, 9, 4, 9, 0};
        for (int c = 0; c < 6; c++) {
            due("takes of " + c, x.takes(c, 9), takes[c]);
            due("takes 0", x.takes(c, 0), 0);
            due("takes -1", x.takes(c, -1), BAD);
            due("takes 10000", x.takes(c, 10000), BAD);
        }
        due("takes 9999", x.takes(0, 9999), 9999);
        due("takes half of 9999", x.takes(3, 9999), 4999);
        due("takes of no cellar", x.takes(6, 1), BAD);
        due("takes of no cellar", x.takes(-1, 1), BAD);

        promise = 5;
        String[] over = {"0", "01", "02", "013", "024", "05"};
        for (int c = 0; c < 6; c++) {
            x.set(c, 2, 30 + c);
            for (int kind = 0; kind < 6; kind++) {
                boolean is = over[c].indexOf('0' + kind) >= 0;
                due("as(" + c + ", " + kind + ")", x.as(c, kind), is ? 30 + c : KIND);
            }
            due("as 6", x.as(c, 6), BAD);
            due("as -1", x.as(c, -1), BAD);
        }
        due("as of no cellar", x.as(6, 0), BAD);
        due("as of no cellar", x.as(-1, 0), BAD);

        promise = 6;
        wine(x, 0, 200, 0, 0);
        due("HIGH before", x.told(0, 4), 20);
        due("turns DEEP", x.turns(0, 1), 0);
        due("HIGH of DEEP", x.told(0, 4), 10);
        due("turns SEALED", x.turns(0, 5), 1);
        due("HIGH of SEALED", x.told(0, 4), 0);
        due("kind", x.told(0, 0), 5);
        due("turns into what it is", x.turns(0, 5), 5);
        due("turns 6", x.turns(0, 6), BAD);
        due("turns -1", x.turns(0, -1), BAD);
        due("turns of no cellar", x.turns(6, 0), BAD);
        due("turns of no cellar", x.turns(-1, 0), BAD);
        due("kind stays", x.told(0, 0), 5);
    }

    private static void sets() {
        promise = 7;
        LevelCellars x = withCellars(0);
        int[] whats = {1, 2, 8, 9, 10};
        int[] least = {0, 1, 0, 0, 0};
        int[] most = {99, 99, 999, 999, 999};
        int[] was = {10, 20, 0, 0, 0};
        for (int i = 0; i < whats.length; i++) {
            due("set least", x.set(0, whats[i], least[i]), was[i]);
            due("set most", x.set(0, whats[i], most[i]), least[i]);
            due("set too little", x.set(0, whats[i], least[i] - 1), BAD);
            due("set too much", x.set(0, whats[i], most[i] + 1), BAD);
            due("stays", x.told(0, whats[i]), most[i]);
        }
        due("FULL", x.told(0, 3), 2997);
        due("HIGH", x.told(0, 4), 299);
        due("LEVEL", x.told(0, 5), 398);
        int[] not = {MIN, -1, 0, 3, 4, 5, 6, 7, 11, MAX};
        for (int what : not) {
            due("set what " + what, x.set(0, what, 5), BAD);
        }
        due("set of no cellar", x.set(1, 1, 5), BAD);
        due("set of no cellar", x.set(-1, 1, 5), BAD);
    }

    private static void pipes() {
        promise = 8;
        LevelCellars x = withCellars(0, 0, 0);
        due("with itself", x.pipe(1, 1, 1), BAD);
        due("one", x.pipe(-1, 1, 1), BAD);
        due("one", x.pipe(3, 1, 1), BAD);
        due("other", x.pipe(0, 3, 1), BAD);
        due("other", x.pipe(0, -1, 1), BAD);
        due("wide 0", x.pipe(0, 1, 0), BAD);
        due("wide 10", x.pipe(0, 1, 10), BAD);
        for (int p = 0; p < 12; p++) {
            due("pipe " + p, x.pipe(p % 3, (p + 1) % 3, 1 + p % 9), p);
        }
        due("a thirteenth", x.pipe(0, 1, 1), FULL);
        due("a bad thirteenth", x.pipe(0, 0, 1), BAD);
        due("twelve", x.count(1), 12);

        promise = 9;
        for (int p = 0; p < 12; p++) {
            due("ONE", x.pipeOf(p, 0), p % 3);
            due("OTHER", x.pipeOf(p, 1), (p + 1) % 3);
            due("WIDE", x.pipeOf(p, 2), 1 + p % 9);
            due("CORKED", x.pipeOf(p, 3), 0);
            due("what RUNS", x.pipeOf(p, 4), 0);
            due("what 5", x.pipeOf(p, 5), BAD);
            due("what -1", x.pipeOf(p, -1), BAD);
        }
        due("pipe 12", x.pipeOf(12, 0), BAD);
        due("pipe -1", x.pipeOf(-1, 0), BAD);
    }

    private static void runsThroughPipes() {
        promise = 9;
        LevelCellars x = withCellars(0, 0, 3, 5);
        x.pipe(0, 1, 3);
        x.pipe(2, 0, 9);
        x.pipe(0, 3, 9);
        wine(x, 0, 100, 50, 0);
        due("3 * 15 / 2", x.pipeOf(0, 4), 22);
        due("into a VAULT: half of 67", x.pipeOf(1, 4), 33);
        due("into a SEALED one", x.pipeOf(2, 4), 0);
        wine(x, 1, 0, 0, 140);
        due("3 * 1 / 2", x.pipeOf(0, 4), 1);
        wine(x, 1, 0, 0, 150);
        due("alike", x.pipeOf(0, 4), 0);
        wine(x, 1, 0, 0, 160);
        due("the other way", x.pipeOf(0, 4), 1);
        x.set(0, 1, 99);
        due("no more than there is", x.pipeOf(0, 4), 3 * (114 - 26) / 2);
        wine(x, 0, 7, 0, 0);
        due("no more than FULL", x.pipeOf(0, 4), 7);
        due("half of FULL into a VAULT", x.pipeOf(1, 4), 3);
        x.cork(0, 1);
        due("CORKED", x.pipeOf(0, 4), 0);
        x.set(3, 1, 99);
        x.set(0, 1, 0);
        wine(x, 3, 500, 0, 0);
        due("out of a SEALED one", x.pipeOf(2, 4), 9 * 99 / 2);
    }

    private static void corksThirstSeed() {
        promise = 10;
        LevelCellars x = withCellars(0, 0);
        x.pipe(0, 1, 2);
        wine(x, 0, 100, 0, 0);
        due("corked", x.cork(0, 1), 0);
        due("again", x.cork(0, 1), 1);
        due("nothing runs", x.pipeOf(0, 4), 0);
        due("v 2", x.cork(0, 2), BAD);
        due("v -1", x.cork(0, -1), BAD);
        due("pipe 1", x.cork(1, 0), BAD);
        due("pipe -1", x.cork(-1, 0), BAD);
        due("still", x.pipeOf(0, 3), 1);
        x.hours(1);
        due("nothing ran", x.told(0, 3), 100);
        due("open", x.cork(0, 0), 1);
        due("it runs", x.pipeOf(0, 4), 10);

        promise = 11;
        due("thirst 100", x.thirst(100), 0);
        due("thirst 101", x.thirst(101), BAD);
        due("thirst -1", x.thirst(-1), BAD);
        due("thirst 0", x.thirst(0), 100);
        due("thirst 7", x.thirst(7), 0);
        due("count(3)", x.count(3), 7);

        promise = 13;
        x = new LevelCellars();
        due("seed MIN", x.seed(MIN), 1);
        due("seed -7", x.seed(-7), MIN);
        due("count(8)", x.count(8), -7);
    }

    private static int nextZ(int z) {
        return z * 1103515245 + 12345;
    }

    private static void deals() {
        promise = 12;
        LevelCellars x = new LevelCellars();
        due("deal(0)", x.deal(0), BAD);
        due("deal(9)", x.deal(9), BAD);
        due("deal(-1)", x.deal(-1), BAD);
        due("no draw", x.count(8), 1);
        x.cellar(0, 1, 1);
        x.seed(77);
        due("deal(5)", x.deal(5), 5);
        int z = 77;
        for (int c = 1; c < 6; c++) {
            z = nextZ(z);
            due("KIND", x.told(c, 0), (z >>> 8) % 6);
            z = nextZ(z);
            due("FLOOR", x.told(c, 1), (z >>> 8) % 60);
            z = nextZ(z);
            due("LIP", x.told(c, 2), 1 + (z >>> 8) % 60);
            z = nextZ(z);
            due("WINE", x.told(c, 8 + c % 3), (z >>> 8) % 300);
            due("FULL", x.told(c, 3), (z >>> 8) % 300);
        }
        due("z", x.count(8), z);
        due("deal(8)", x.deal(8), 2);
        z = x.count(8);
        due("deal(1)", x.deal(1), 0);
        due("no draw for none", x.count(8), z);
        due("eight", x.count(0), 8);
    }

    private static void hours() {
        promise = 14;
        LevelCellars x = withCellars(0, 0, 0);
        due("hours(0)", x.hours(0), BAD);
        due("hours(101)", x.hours(101), BAD);
        due("hours(-1)", x.hours(-1), BAD);
        due("no hour", x.count(2), 0);
        // Pipes by numbers, each by what is there by then.
        x.pipe(0, 1, 4);
        x.pipe(1, 2, 4);
        wine(x, 0, 100, 0, 0);
        due("hours(1)", x.hours(1), 0);
        due("0", x.told(0, 3), 80);
        due("1: came 20, 4 went on", x.told(1, 3), 16);
        due("2", x.told(2, 3), 4);
        due("z has been drawn once", x.count(8), nextZ(1));
        due("the hour", x.count(2), 1);

        // Losing comes ahead of the lips, and lips look at what is left by then.
        x = withCellars(2, 4, 0, 1);
        for (int c = 0; c < 4; c++) {
            x.set(c, 2, 11);
            wine(x, c, 112, 0, 0);
        }
        due("LEAKY: 5 of 112, HIGH 11 then; CHURCH: 4, HIGH 11", x.hours(1), 9);
        due("LEAKY", x.told(0, 3), 107);
        due("CHURCH", x.told(1, 3), 108);
        due("CELLAR at its lip", x.told(2, 3), 112);
        x.set(2, 2, 10);
        x.set(3, 2, 5);
        due("CELLAR: 29 over; 107 / 20, 108 / 20 - 1", x.hours(1), 29 + 5 + 4);
        due("CELLAR over its lip", x.told(2, 3), 83);
        due("DEEP at its lip", x.told(3, 3), 112);
        due("all", x.town(1), 47);

        x = withCellars(2);
        x.set(0, 2, 1);
        for (int i = 0; i < 99; i++) {
            x.hours(100);
        }
        due("9900", x.count(2), 9900);
        wine(x, 0, 9, 0, 0);
        due("it is at its lip", x.hours(1), 0);
        due("100 more", x.hours(100), 0);
        due("9999", x.count(2), 9999);
        int z = x.count(8);
        wine(x, 0, 999, 0, 0);
        due("no hour any more", x.hours(100), 0);
        due("9999 still", x.count(2), 9999);
        due("no draw any more", x.count(8), z);
        due("thought goes beyond", x.behind(1, 1), 49 + 950 / 4 + 1);

        x = withCellars(0);
        x.set(0, 2, 1);
        wine(x, 0, 20, 0, 0);
        due("20 / 4 + 1", x.hours(1), 6);
        due("no more: HIGH is 1", x.hours(9), 0);
        text(x, "high 9");
        wine(x, 0, 2, 0, 0);
        due("each drop", x.hours(2), 2);
        due("none is left", x.hours(5), 0);
        due("all is spilt", x.town(1), 8);
    }

    private static void sortsThatGo() {
        promise = 14;
        LevelCellars x = withCellars(0, 5);
        x.set(1, 1, 0);
        x.turns(1, 0);
        x.pipe(0, 1, 1);
        // 17 of 10, 20, 41: 10 * 17 / 71 = 2, 4, 9; two lack, of sort 0.
        x.set(0, 1, 27);
        wine(x, 0, 10, 20, 41);
        due("1 * 34 / 2", x.pipeOf(0, 4), 17);
        x.hours(1);
        due("sort 0", x.told(1, 8), 4);
        due("sort 1", x.told(1, 9), 4);
        due("sort 2", x.told(1, 10), 9);
        due("left 0", x.told(0, 8), 6);
        due("left 1", x.told(0, 9), 16);
        due("left 2", x.told(0, 10), 32);
        // 5 of 0, 3, 4 (no more): 0, 2, 2, and one of sort 1.
        x = withCellars(0, 0);
        x.set(1, 1, 0);
        x.pipe(0, 1, 1);
        wine(x, 0, 0, 3, 4);
        due("1 * 10 / 2", x.pipeOf(0, 4), 5);
        x.hours(1);
        due("none of sort 0", x.told(1, 8), 0);
        due("sort 1", x.told(1, 9), 3);
        due("sort 2", x.told(1, 10), 2);
        // What lacks goes on to the next sort: 2 of 1, 1, 1: nothing by shares, then sorts 0 and 1.
        x = withCellars(0, 0);
        x.set(1, 1, 6);
        x.pipe(0, 1, 1);
        wine(x, 0, 1, 1, 1);
        due("1 * 4 / 2", x.pipeOf(0, 4), 2);
        x.hours(1);
        due("sort 0", x.told(1, 8), 1);
        due("sort 1", x.told(1, 9), 1);
        due("sort 2", x.told(1, 10), 0);
        // 3 of 2, 1, 1 behind other shares: 1, 0, 0; of sort 0 one more, then one of sort 1.
        x = withCellars(0, 0);
        x.set(1, 1, 4);
        x.pipe(0, 1, 1);
        wine(x, 0, 2, 1, 1);
        due("1 * 6 / 2", x.pipeOf(0, 4), 3);
        x.hours(1);
        due("sort 0", x.told(1, 8), 2);
        due("sort 1", x.told(1, 9), 1);
        due("sort 2", x.told(1, 10), 0);
        due("left 2", x.told(0, 10), 1);
        x.cork(0, 1);
        wine(x, 0, 400, 0, 0);
        x.set(0, 2, 1);
        x.hours(1);
        due("shares are made anew", x.told(0, 8), 299);
        manyDrops();
    }

    /** So many drops that their product with what goes is above all ints. */
    private static void manyDrops() {
        LevelCellars x = withCellars(0, 0, 0, 0, 0, 0, 0, 0);
        text(x, "high 0");
        x.sheet(0, 1, 8);
        x.mark(0, 0, NONE);
        x.set(0, 1, 0);
        for (int c = 1; c < 8; c++) {
            x.mark(0, c, 999);
            x.set(c, 1, 99);
            x.pipe(0, c, 9);
        }
        for (int i = 0; i < 100; i++) {
            x.pour(0);
            x.hours(3);
        }
        int all = 7 * 999 * 100;
        due("all of it", x.told(0, 8), all);
        x.set(0, 9, 999);
        text(x, "high 1000");
        x.set(0, 2, 1);
        for (int c = 1; c < 8; c++) {
            x.set(c, 2, 99);
        }
        int full = all + 999;
        int n = full / 4 + 1;
        int zero = (int) ((long) all * n / full);
        int one = (int) (999L * n / full);
        for (int p = 0; p < 7; p++) {
            x.cork(p, 1);
        }
        due("SPILT", x.hours(1), n);
        due("sort 0", x.told(0, 8), all - zero - (n - zero - one));
        due("sort 1", x.told(0, 9), 999 - one);
    }

    private static void drinking() {
        promise = 14;
        LevelCellars x = withCellars(0, 0, 0);
        for (int c = 0; c < 3; c++) {
            wine(x, c, 10, 0, 2);
        }
        x.thirst(50);
        x.seed(5);
        int z = 5;
        int[] left = {12, 12, 12};
        for (int i = 0; i < 12; i++) {
            due("nothing is spilt", x.hours(1), 0);
            z = nextZ(z);
            if ((z >>> 8) % 100 < 50) {
                z = nextZ(z);
                int c = (z >>> 8) % 3;
                left[c] = Math.max(0, left[c] - 5);
            }
            for (int c = 0; c < 3; c++) {
                due("left in " + c, x.told(c, 3), left[c]);
            }
            due("z", x.count(8), z);
        }
        x = new LevelCellars();
        x.thirst(100);
        due("without cellars", x.hours(1), 0);
        due("no second draw without cellars", x.count(8), nextZ(1));
        x = withCellars(0);
        x.thirst(100);
        wine(x, 0, 10, 0, 2);
        x.hours(1);
        due("sort 0: 10 * 5 / 12, and 1", x.told(0, 8), 5);
        due("sort 2: 2 * 5 / 12", x.told(0, 10), 2);
        due("not SPILT", x.town(1), 0);
        x.hours(2);
        due("as many as there are", x.told(0, 3), 0);
    }

    private static void town() {
        promise = 15;
        LevelCellars x = withCellars(0, 5, 0, 0);
        x.pipe(0, 1, 9);
        x.pipe(0, 2, 9);
        x.pipe(0, 3, 9);
        x.pipe(2, 3, 9);
        wine(x, 0, 50, 0, 0);
        wine(x, 3, 0, 0, 7);
        due("FULL", x.town(0), 57);
        due("SPILT", x.town(1), 0);
        due("two pipes", x.town(2), 2);
        due("cellars with wine", x.town(3), 9);
        x.cork(1, 1);
        due("one pipe", x.town(2), 1);
        wine(x, 3, 0, 0, 1);
        due("one drop is wine", x.town(3), 9);
        due("what 4", x.town(4), BAD);
        due("what -1", x.town(-1), BAD);
    }

    private static LevelCellars hill() {
        LevelCellars x = new LevelCellars();
        x.cellar(0, 20, 30);
        x.cellar(1, 10, 20);
        x.cellar(2, 40, 25);
        x.cellar(3, 5, 60);
        wine(x, 0, 200, 50, 0);
        wine(x, 1, 100, 0, 0);
        wine(x, 2, 0, 0, 300);
        wine(x, 3, 0, 77, 0);
        x.pipe(0, 1, 3);
        x.pipe(2, 0, 2);
        x.pipe(2, 3, 5);
        x.thirst(30);
        x.seed(9);
        return x;
    }

    /** All that the calls of "what will be" must leave as it is. */
    private static void same(LevelCellars x, LevelCellars y) {
        for (int c = 0; c < y.count(0); c++) {
            for (int what = 0; what < 11; what++) {
                due("told(" + c + ", " + what + ")", x.told(c, what), y.told(c, what));
            }
        }
        for (int p = 0; p < y.count(1); p++) {
            for (int what = 0; what < 5; what++) {
                due("pipeOf(" + p + ", " + what + ")", x.pipeOf(p, what), y.pipeOf(p, what));
            }
        }
        for (int what = 0; what < 9; what++) {
            due("count(" + what + ")", x.count(what), y.count(what));
        }
        due("SPILT", x.town(1), y.town(1));
    }

    private static void behindTasteRests() {
        for (int n = 0; n <= 100; n++) {
            LevelCellars x = hill();
            LevelCellars y = hill();
            if (n > 0) {
                y.hours(n);
            }
            promise = 16;
            due("behind(" + n + ", 0)", x.behind(n, 0), y.town(0));
            due("behind(" + n + ", 1)", x.behind(n, 1), y.town(1));
            for (int c = 0; c < 4; c++) {
                promise = 16;
                due("behind(" + n + ", " + (2 + c) + ")", x.behind(n, 2 + c), y.told(c, 3));
                promise = 17;
                for (int s = 0; s < 3; s++) {
                    due("taste(" + c + ", " + s + ", " + n + ")", x.taste(c, s, n), y.told(c, 8 + s));
                }
            }
        }
        LevelCellars x = hill();
        promise = 16;
        due("no cellars", new LevelCellars().behind(1, 2), BAD);
        due("n -1", x.behind(-1, 0), BAD);
        due("n 101", x.behind(101, 0), BAD);
        due("what -1", x.behind(1, -1), BAD);
        due("what 6", x.behind(1, 6), BAD);
        due("what MIN", x.behind(1, MIN), BAD);
        due("what MAX", x.behind(1, MAX), BAD);
        promise = 17;
        due("cellar 4", x.taste(4, 0, 1), BAD);
        due("cellar -1", x.taste(-1, 0, 1), BAD);
        due("sort 3", x.taste(0, 3, 1), BAD);
        due("sort -1", x.taste(0, -1, 1), BAD);
        due("n 101", x.taste(0, 0, 101), BAD);
        due("n -1", x.taste(0, 0, -1), BAD);
        promise = 18;
        x.thirst(0);
        int rests = x.rests();
        LevelCellars y = hill();
        y.thirst(0);
        int hours = 0;
        while (y.town(2) != 0 && hours < 301) {
            y.hours(1);
            hours++;
        }
        due("rests()", rests, hours);
        due("it is some", rests > 0 && rests <= 300 ? 1 : 0, 1);
        x.thirst(30);
        same(x, hill());
        restless();
    }

    private static void restless() {
        promise = 18;
        // 9 wide between two that are alike but for a little: it runs to and fro for ever.
        LevelCellars x = withCellars(0, 0);
        x.pipe(0, 1, 9);
        x.set(0, 2, 99);
        x.set(1, 2, 99);
        text(x, "high f");
        wine(x, 0, 30, 0, 0);
        due("to and fro", x.rests(), NONE);
        x.cork(0, 1);
        due("at rest", x.rests(), 0);
        // One drop an hour, 300 and 301 of them.
        x = withCellars(0, 0);
        x.set(1, 1, 8);
        x.pipe(0, 1, 1);
        text(x, "high 0");
        wine(x, 0, 300, 0, 0);
        due("300 hours", x.rests(), 300);
        wine(x, 0, 301, 0, 0);
        due("301 hours", x.rests(), NONE);
    }

    private static void corks() {
        promise = 19;
        LevelCellars x = hill();
        for (int c = 0; c < 4; c++) {
            int best = -1;
            int most = -1;
            for (int p = 0; p < 3; p++) {
                LevelCellars y = hill();
                y.cork(p, 1);
                y.hours(7);
                if (y.told(c, 3) > most) {
                    most = y.told(c, 3);
                    best = p;
                }
            }
            due("corks(" + c + ", 7, 0)", x.corks(c, 7, 0), best);
            due("corks(" + c + ", 7, 1)", x.corks(c, 7, 1), most);
        }
        same(x, hill());
        due("n 0", x.corks(0, 0, 0), BAD);
        due("n 61", x.corks(0, 61, 0), BAD);
        due("what 2", x.corks(0, 1, 2), BAD);
        due("what -1", x.corks(0, 1, -1), BAD);
        due("cellar 4", x.corks(4, 1, 0), BAD);
        due("cellar -1", x.corks(-1, 1, 0), BAD);
        x.cork(0, 1);
        x.cork(2, 1);
        due("the only one", x.corks(3, 60, 0), 1);
        x.cork(1, 1);
        due("all are CORKED", x.corks(3, 60, 0), NONE);
        due("all are CORKED", x.corks(3, 60, 1), NONE);
        due("BAD first", x.corks(3, 61, 1), BAD);
        x = withCellars(0, 0);
        due("no pipes", x.corks(0, 1, 0), NONE);
        x.pipe(0, 1, 1);
        x.pipe(1, 0, 1);
        due("the least of several", x.corks(0, 1, 0), 0);
        due("FULL 0", x.corks(0, 1, 1), 0);
    }

    private static void digs() {
        promise = 20;
        LevelCellars x = hill();
        int best = -1;
        int least = MAX;
        int[] pairs = {3, 12, 13};
        for (int pair : pairs) {
            LevelCellars y = hill();
            y.pipe(pair / 10, pair % 10, 3);
            y.hours(5);
            if (y.town(1) < least) {
                least = y.town(1);
                best = pair;
            }
        }
        due("dig(5, 0)", x.dig(5, 0), best);
        due("dig(5, 1)", x.dig(5, 1), least);
        same(x, hill());
        due("n 0", x.dig(0, 0), BAD);
        due("n 41", x.dig(41, 0), BAD);
        due("what 2", x.dig(1, 2), BAD);
        due("what -1", x.dig(1, -1), BAD);
        due("n 40", x.dig(40, 0) >= 0 ? 1 : 0, 1);
        x = withCellars(0);
        due("one cellar", x.dig(1, 0), NONE);
        due("one cellar", x.dig(1, 1), NONE);
        x.cellar(0, 1, 1);
        due("two", x.dig(1, 0), 1);
        due("nothing spilt", x.dig(1, 1), 0);
        x.pipe(1, 0, 1);
        x.cork(0, 1);
        due("a CORKED pipe is one", x.dig(1, 0), NONE);
        x.cellar(0, 1, 1);
        x.cellar(0, 1, 1);
        due("the least of several", x.dig(1, 0), 2);
        x.pipe(2, 0, 1);
        due("03, not 12", x.dig(1, 0), 3);
        // A thirteenth: cellar 1 is over its lip, cellar 2 has room; all the pipes join 0 and 1 and are CORKED.
        x = withCellars(0, 0, 0);
        x.set(1, 2, 19);
        wine(x, 1, 200, 0, 0);
        for (int p = 0; p < 12; p++) {
            x.pipe(0, 1, 1);
            x.cork(p, 1);
        }
        due("12", x.dig(1, 0), 12);
        due("HIGH is 17 then", x.dig(1, 1), 0);
        due("twelve as before", x.count(1), 12);
        due("no thirteenth stays", x.pipe(0, 2, 1), FULL);
    }

    private static void loserTap() {
        promise = 21;
        LevelCellars x = hill();
        LevelCellars y = hill();
        y.hours(6);
        int best = -1;
        int most = MIN;
        for (int c = 0; c < 4; c++) {
            int lost = x.told(c, 3) - y.told(c, 3);
            if (lost > most) {
                most = lost;
                best = c;
            }
        }
        due("loser(6, 0)", x.loser(6, 0), best);
        due("loser(6, 1)", x.loser(6, 1), most);
        same(x, hill());
        due("n 0", x.loser(0, 0), BAD);
        due("n 61", x.loser(61, 0), BAD);
        due("what 2", x.loser(1, 2), BAD);
        due("what -1", x.loser(1, -1), BAD);
        x = new LevelCellars();
        due("no cellars", x.loser(1, 0), NONE);
        due("no cellars", x.loser(1, 1), NONE);
        due("BAD first", x.loser(0, 1), BAD);
        x.cellar(0, 0, 9);
        x.cellar(0, 0, 9);
        due("the least of several", x.loser(60, 0), 0);
        due("by nothing", x.loser(60, 1), 0);

        promise = 22;
        for (int c = 0; c < 4; c++) {
            x = hill();
            LevelCellars as = hill();
            LevelCellars emptied = hill();
            wine(emptied, c, 0, 0, 0);
            as.hours(8);
            emptied.hours(8);
            int want = as.town(0) - as.told(c, 3) - (emptied.town(0) - emptied.told(c, 3));
            due("tap(" + c + ", 8)", x.tap(c, 8), want);
            same(x, hill());
        }
        due("n 0", x.tap(0, 0), BAD);
        due("n 61", x.tap(0, 61), BAD);
        due("cellar 4", x.tap(4, 1), BAD);
        due("cellar -1", x.tap(-1, 1), BAD);
        x = withCellars(0, 0);
        x.pipe(0, 1, 2);
        wine(x, 0, 100, 0, 0);
        due("what 0 gives", x.tap(0, 1), 10);
        due("what 1 gives", x.tap(1, 1), 0);
        wine(x, 1, 50, 0, 0);
        due("1 empty draws more from 0", x.tap(1, 1), 5);
        due("0 empty draws from 1", x.tap(0, 1), 10);
    }

    private static void dug() {
        promise = 23;
        LevelCellars x = hill();
        LevelCellars y = hill();
        y.cork(1, 1);
        x.sheet(0, 1, 6);
        for (int k = 0; k < 6; k++) {
            x.mark(0, k, k == 3 ? NONE : y.told(0, 5));
            y.hours(1);
        }
        due("pipe 1 is shown", x.dug(0, 0, 0), 1);
        due("without difference", x.dug(0, 0, 1), 0);
        x.mark(0, 0, x.told(0, 5) - 4);
        due("pipe 1 still", x.dug(0, 0, 0), 1);
        due("by 4", x.dug(0, 0, 1), 4);
        x.sheet(0, 1, 6);
        y = hill();
        for (int k = 0; k < 6; k++) {
            x.mark(0, k, y.told(3, 5));
            y.hours(1);
        }
        due("as it is", x.dug(0, 3, 0), NONE);
        due("as it is", x.dug(0, 3, 1), 0);
        x.sheet(0, 0, 0);
        due("no places", x.dug(0, 3, 0), NONE);
        due("no places", x.dug(0, 3, 1), 0);
        due("sheet -1", x.dug(-1, 0, 0), BAD);
        due("sheet 4", x.dug(4, 0, 0), BAD);
        due("cellar -1", x.dug(0, -1, 0), BAD);
        due("cellar 4", x.dug(0, 4, 0), BAD);
        due("what 2", x.dug(0, 0, 2), BAD);
        due("what -1", x.dug(0, 0, -1), BAD);
        due("MISSING", x.dug(1, 0, 0), NOTHING);
        due("BAD first", x.dug(1, 0, 2), BAD);
        x = withCellars(0, 0);
        x.pipe(0, 1, 2);
        x.pipe(0, 1, 2);
        x.sheet(0, 0, 2);
        wine(x, 0, 100, 0, 0);
        x.mark(0, 0, -3);
        x.mark(0, 1, 30);
        due("the least of two alike", x.dug(0, 0, 0), 0);
        due("20 + 3, and 30 - 19", x.dug(0, 0, 1), 34);
    }

    private static void feeFine() {
        promise = 24;
        LevelCellars x = withCellars(0, 0);
        x.set(0, 2, 1);
        wine(x, 0, 999, 0, 0);
        due("fee", x.fee(), 0);
        int spilt = x.hours(2);
        due("fee is SPILT", x.fee(), spilt);
        due("it is some", spilt > 0 ? 1 : 0, 1);
        due("text", text(x, "fee s*1000+h"), 0);
        due("fee", x.fee(), spilt * 1000 + 2);
        due("text", text(x, "fee 0-h*9"), 1);
        due("fee may be below 0", x.fee(), -18);

        promise = 25;
        wine(x, 1, 30, 4, 0);
        due("fine is FULL", x.fine(1), 34);
        due("text", text(x, "fine w*100+l"), 2);
        due("fine", x.fine(1), 3413);
        due("cellar 2", x.fine(2), BAD);
        due("cellar -1", x.fine(-1), BAD);
    }

    private static void tape() {
        promise = 26;
        LevelCellars x = new LevelCellars();
        for (int i = 1; i <= 8; i++) {
            due("feed", x.feed(MIN, MAX, -1), 12 * i);
        }
        due("a ninth", x.feed(0, 0, 0), FULL);
        due("count(7)", x.count(7), 96);

        promise = 27;
        due("trim(97)", x.trim(97), BAD);
        due("trim(-1)", x.trim(-1), BAD);
        due("trim(96)", x.trim(96), 96);
        due("trim(85)", x.trim(85), 85);
        due("trim(86)", x.trim(86), BAD);
        promise = 26;
        due("97 would be", x.feed(0, 0, 0), FULL);
        promise = 27;
        due("trim(84)", x.trim(84), 84);
        promise = 26;
        due("96", x.feed(0, 0, 0), 96);
        promise = 27;
        due("trim(0)", x.trim(0), 0);
        due("count(7)", x.count(7), 0);

        promise = 26;
        due("highest first: fee 12+30+45", x.feed(0x66656520, 0x31322b33, 0x302b3435), 12);
        due("text", x.text(), 0);
        due("fee", x.fee(), 87);
        due("used up", x.count(7), 0);
    }

    private static void textsRead() {
        promise = 28;
        LevelCellars x = new LevelCellars();
        due("an empty tape", x.text(), -100);
        due("blanks alone", text(x, "   "), -103);
        due("a key alone", text(x, "fee"), -103);
        due("blanks at the ends", text(x, "  fee  s  "), 0);
        due("no blank ahead of a sign", text(x, "fee(s)"), 1);
        due("no blank ahead of a !", text(x, "fee!s"), 2);
        due("no blanks at all", text(x, "fine w<l&w*2>l|!w=0"), 3);
        due("blanks all over", text(x, "fine ( w  < l ) & w * 2 > l | ! w = 0"), 4);
        due("four digits", text(x, "fee 0009"), 5);
        due("a name of none", text(x, "fee f"), -104);
        due("used up", x.count(7), 0);
        due("a fault takes no number", x.count(5), 6);
        for (int i = 6; i < 14; i++) {
            due("text " + i, text(x, "high 1"), i);
        }
        due("a fifteenth", text(x, "high 2"), FULL);
        due("used up", x.count(7), 0);
        due("a fault first", text(x, "high 2)"), -106);
        due("fourteen", x.count(5), 14);
        due("the last one counts", x.why(0), 13);
        x.cellar(0, 1, 1);
        due("and gives", x.told(0, 4), 1);
        promise = 28;
        StringBuilder longest = new StringBuilder("fee s");
        while (longest.length() < 95) {
            longest.append("+1");
        }
        x = new LevelCellars();
        due("95 bytes", text(x, longest.toString()), 0);
        due("it gives", x.fee(), 45);
        due("96 bytes", text(x, longest + " "), 1);
        due("96 bytes, too short", text(x, longest + "+"), -196);
        due("96 bytes, a word last", text(x, longest + "2"), 2);
        due("it gives", x.fee(), 44 + 12);
        due("96 bytes, a bad word last", text(x, longest + "a"), -195);
        due("NUMBERS and NAMES", x.textTold(0, 1), 46);
    }

    private static int gives(String e) {
        LevelCellars x = withCellars(0);
        x.set(0, 1, 7);
        wine(x, 0, 30, 0, 12);
        int number = text(x, "fine " + e);
        return number == 0 ? x.fine(0) : number;
    }

    private static void textsGive() {
        promise = 28;
        due("w", gives("w"), 42);
        due("l", gives("l"), 11);
        due("from the left", gives("9-4-3"), 2);
        due("from the left", gives("100/7/2"), 7);
        due("* ahead of +", gives("2+3*4"), 14);
        due("( )", gives("(2+3)*4"), 20);
        due("cut towards 0", gives("(0-7)/2"), -3);
        due("by 0", gives("7/0"), 0);
        due("0 by 0", gives("0/0"), 0);
        due("wrap", gives("9999*9999*9999"), 9999 * 9999 * 9999);
        due("least by -1", gives("(0-2*1024*1024*1024)/(0-1)"), MIN);
        due("<", gives("1<2"), 1);
        due("<", gives("2<2"), 0);
        due("=", gives("2=2"), 1);
        due("=", gives("2=3"), 0);
        due(">", gives("3>2"), 1);
        due(">", gives("2>2"), 0);
        due("+ ahead of <", gives("1+1<3"), 1);
        due("< ahead of &", gives("5<6&3"), 1);
        due("& ahead of |", gives("1|0&0"), 1);
        due("& gives 1", gives("5&9"), 1);
        due("& gives 0", gives("5&0"), 0);
        due("| gives 1", gives("0|9"), 1);
        due("| gives 0", gives("0|0"), 0);
        due("!", gives("!5"), 0);
        due("!", gives("!0"), 1);
        due("! binds most", gives("!0+1"), 2);
        due("! of !", gives("!!7"), 1);
        due("! of ( )", gives("!(1-1)"), 1);
        due("two tests in ( )", gives("(1<2)<2"), 1);

        promise = 3;
        LevelCellars x = withCellars(0, 1, 2, 3, 4, 5);
        for (int c = 0; c < 6; c++) {
            wine(x, c, 30, 10, 5);
        }
        due("text", text(x, "high f+l*10+w*100"), 0);
        int[] most = {999, 499, 1000, 497, 1000, 0};
        for (int c = 0; c < 6; c++) {
            due("high is held below 1000", x.told(c, 4), most[c]);
        }
        due("text", text(x, "high f+l+w-5"), 1);
        int[] some = {90, 45, 91, 43, 91, 0};
        for (int c = 0; c < 6; c++) {
            due("high gives", x.told(c, 4), some[c]);
        }
        due("text", text(x, "high 0-9999"), 2);
        int[] none = {0, 0, 1, 0, 1, 0};
        for (int c = 0; c < 6; c++) {
            due("high is held above -1", x.told(c, 4), none[c]);
            wine(x, c, 0, 0, 0);
            due("high of an empty one", x.told(c, 4), 0);
        }
        due("text", text(x, "high l*2-30"), 3);
        x.set(0, 2, 33);
        due("another LIP, another HIGH", x.told(0, 4), 36);
        x.sheet(0, 0, 1);
        x.mark(0, 0, 8);
        due("text", text(x, "high w"), 4);
        x.pour(0);
        due("poured, another HIGH", x.told(0, 4), 8);
        x = withCellars(0);
        text(x, "high f+3");
        due("a cellar without wine", x.cellar(0, 0, 1), 1);
        due("has its HIGH", x.told(1, 4), 3);
    }

    private static void textsToldWhy() {
        LevelCellars x = new LevelCellars();
        promise = 29;
        due("none", x.textTold(0, 0), BAD);
        due("text", text(x, "fine (w+l)*2"), 0);
        due("text", text(x, "high !!f"), 1);
        due("text", text(x, "fee s+h+s+h+10"), 2);
        due("text", text(x, "fine 1"), 3);
        int[] keys = {2, 0, 1, 2};
        int[] leaves = {3, 1, 5, 1};
        for (int t = 0; t < 4; t++) {
            due("KEY", x.textTold(t, 0), keys[t]);
            due("NUMBERS and NAMES", x.textTold(t, 1), leaves[t]);
            due("what 2", x.textTold(t, 2), BAD);
            due("what -1", x.textTold(t, -1), BAD);
        }
        due("text 4", x.textTold(4, 0), BAD);
        due("text -1", x.textTold(-1, 0), BAD);
        promise = 30;
        due("high", x.why(0), 1);
        due("fee", x.why(1), 2);
        due("fine", x.why(2), 3);
        due("key 3", x.why(3), BAD);
        due("key -1", x.why(-1), BAD);
    }

    private static void faultAt(String tape, int place) {
        LevelCellars x = new LevelCellars();
        due("\"" + tape + "\"", text(x, tape), place < 0 ? 0 : -100 - place);
    }

    private static void faults() {
        promise = 28;
        faultAt("5", 0);
        faultAt("f", 0);
        faultAt("tigh f", 0);
        faultAt("hige f", 0);
        faultAt("fei s", 0);
        faultAt("five w", 0);
        faultAt("high a", 5);
        faultAt("high az", 5);
        faultAt("high za", 5);
        faultAt("feez", 0);
        faultAt("feea", 0);
        faultAt("fee{", 3);
        faultAt("fee`", 3);
        faultAt("fee:", 3);
        faultAt("fee/", 3);
        faultAt("fee09", 3);
        faultAt("fee 90", -1);
        faultAt(" hig f", 1);
        faultAt("highf", 0);
        faultAt("High f", 0);
        faultAt("high5", 4);
        faultAt("fee12+s", 3);
        faultAt("high 5", -1);
        faultAt("high f5", 6);
        faultAt("high 5f", 6);
        faultAt("high 5 f", 7);
        faultAt("high ff", 5);
        faultAt("high F", 5);
        faultAt("high s", 5);
        faultAt("high h", 5);
        faultAt("fee f", 4);
        faultAt("fine f", 5);
        faultAt("fine s", 5);
        faultAt("high 12345", 5);
        faultAt("high f+12345", 7);
        faultAt("high f +", 8);
        faultAt("high f +  ", 10);
        faultAt("high +f", 5);
        faultAt("high -1", 5);
        faultAt("high f*/w", 7);
        faultAt("high f<w<l", 8);
        faultAt("high f=w>l", 8);
        faultAt("high (f<w)<l", -1);
        faultAt("high f<w&l<f", -1);
        faultAt("high f<<w", 7);
        faultAt("high f!w", 6);
        faultAt("high f(w)", 6);
        faultAt("high ()", 6);
        faultAt("high (f", 7);
        faultAt("high (f))", 8);
        faultAt("high )", 5);
        faultAt("high (f w", 8);
        faultAt("high f%w", 6);
        faultAt("high f\tw", 6);
        faultAt("high f" + (char) 233, 6);
        faultAt("high f" + (char) 0, 6);
        faultAt("high high", 5);
        faultAt("high f fee", 7);
        faultAt("!high f", 0);
        faultAt("high ((((((((f))))))))", -1);
        faultAt("high (((((((((f)))))))))", 13);
        faultAt("high ((((((((f)))))))) + ((((((((f))))))))", -1);
        faultAt("high !!!!!!!!f", -1);
        faultAt("high !!!!!!!!!f", 13);
        faultAt("high !!!!!!!!f+!!!!!!!!f", -1);
        faultAt("high !f+!f+!f+!f+!f+!f+!f+!f+!f+!f", -1);
        faultAt("high !!!!((((!!!!((((f))))))))", -1);
        faultAt("high !!!!((((!!!!!", 17);
        faultAt("high !!!!((((!!!!(((((", 21);
        faultAt("high !(!(!(!(!(!(!(!(f))))))))", -1);
        faultAt("high !(!(!(!(!(!(!(!(!f", 21);
        faultAt("high !(!(!(!(!(!(!(!((f", 21);
        faultAt("high (f)&(f)&(f)&(f)&(f)&(f)&(f)&(f)&(f)&(f)", -1);
    }

    private static void sheets() {
        promise = 31;
        LevelCellars x = new LevelCellars();
        due("sheet -1", x.sheet(-1, 0, 1), BAD);
        due("sheet 4", x.sheet(4, 0, 1), BAD);
        due("sort 2", x.sheet(0, 2, 1), BAD);
        due("sort -2", x.sheet(0, -2, 1), BAD);
        due("n 25", x.sheet(0, 0, 25), BAD);
        due("n MAX", x.sheet(0, 1, MAX), BAD);
        due("n -1", x.sheet(0, 0, -1), SIZE);
        due("n MIN", x.sheet(0, 1, MIN), SIZE);
        due("BAD first", x.sheet(4, 0, -1), BAD);
        due("still MISSING", x.reads(0), NOTHING);
        due("24", x.sheet(0, 0, 24), 24);
        due("0", x.sheet(1, 1, 0), 0);
        due("MISSING, n any", x.sheet(0, -1, 99), 0);
        due("MISSING, n any", x.sheet(1, -1, -99), 0);
        due("MISSING", x.mark(0, 0, 1), NOTHING);
        due("MISSING", x.mark(1, 0, 1), NOTHING);

        promise = 32;
        x.sheet(0, 0, 3);
        x.sheet(1, 1, 3);
        due("sheet -1", x.mark(-1, 0, 1), BAD);
        due("sheet 4", x.mark(4, 0, 1), BAD);
        due("MISSING", x.mark(2, 0, NONE), NOTHING);
        due("place 3", x.mark(0, 3, NONE), INDEX);
        due("place -1", x.mark(1, -1, MAX), INDEX);
        due("NONE in shorts", x.mark(0, 0, NONE), KIND);
        due("NO NUMBER", x.mark(1, 0, NONE), 1);
        due("floats", x.mark(1, 1, 99999), 1);
        due("floats", x.mark(1, 2, -99999), 1);
        due("floats", x.mark(1, 1, 100000), BAD);
        due("floats", x.mark(1, 1, -100000), BAD);
        due("shorts", x.mark(0, 0, 0x12348001), 1);
        due("shorts", x.mark(0, 1, 32767), 1);
        due("shorts", x.mark(0, 2, -1), 1);
        x.lay(0, 2, 0);
        x.lay(1, 2, 1);
        due("lowest 16 bits", x.item(0, 0), (short) 0x8001);
        due("short", x.item(0, 1), 32767);
        due("short", x.item(0, 2), -1);
        due("NO NUMBER", x.item(1, 0), KIND);
        due("float", x.item(1, 1), 99999);
        due("float", x.item(1, 2), -99999);
        promise = 31;
        x.sheet(1, 1, 3);
        x.lay(1, 2, 1);
        for (int i = 0; i < 3; i++) {
            due("all 0 again", x.item(1, i), 0);
        }
    }

    private static void pourReads() {
        promise = 33;
        LevelCellars x = withCellars(0, 0, 0, 0);
        due("sheet -1", x.pour(-1), BAD);
        due("sheet 4", x.pour(4), BAD);
        due("MISSING", x.pour(0), NOTHING);
        for (int c = 0; c < 4; c++) {
            wine(x, c, 50, 5, 5);
        }
        x.sheet(0, 1, 3);
        x.mark(0, 0, NONE);
        x.mark(0, 1, 5000);
        x.mark(0, 2, 50);
        due("one is otherwise", x.pour(0), 1);
        due("NO NUMBER: it stays", x.told(0, 8), 50);
        due("held within", x.told(1, 8), 999);
        due("as it was", x.told(2, 8), 50);
        due("beyond the SHEET", x.told(3, 8), 50);
        due("other sorts stay", x.told(1, 3), 1009);
        x.sheet(1, 0, 24);
        x.mark(1, 0, -5);
        x.mark(1, 3, 50);
        due("three are otherwise", x.pour(1), 3);
        due("held within", x.told(0, 8), 0);
        due("again", x.pour(1), 0);
        x.sheet(2, 0, 0);
        due("no places", x.pour(2), 0);

        promise = 34;
        due("sheet -1", x.reads(-1), BAD);
        due("sheet 4", x.reads(4), BAD);
        due("MISSING", x.reads(3), NOTHING);
        due("no places", x.reads(2), NONE);
        x.sheet(3, 1, 6);
        due("0", x.reads(3), 0);
        for (int c = 0; c < 4; c++) {
            x.mark(3, c, x.told(c, 5));
        }
        due("no CELLAR", x.reads(3), 4);
        x.mark(3, 4, NONE);
        due("no CELLAR", x.reads(3), 5);
        x.mark(3, 5, NONE);
        due("NO NUMBER", x.reads(3), NONE);
        x.mark(3, 2, 99);
        due("2", x.reads(3), 2);
        x.mark(3, 2, NONE);
        due("NO NUMBER", x.reads(3), NONE);
    }

    private static void copies() {
        promise = 35;
        LevelCellars x = new LevelCellars();
        x.sheet(0, 0, 5);
        x.sheet(1, 0, 3);
        x.sheet(2, 1, 5);
        for (int i = 0; i < 5; i++) {
            x.mark(0, i, 10 + i);
            x.mark(2, i, i == 1 ? NONE : 20 + i);
        }
        due("from -1", x.copy(-1, 0, 0, 0, 1), BAD);
        due("from 4", x.copy(4, 0, 0, 0, 1), BAD);
        due("to -1", x.copy(0, 0, -1, 0, 1), BAD);
        due("to 4", x.copy(0, 0, 4, 0, 1), BAD);
        due("MISSING", x.copy(3, 0, 0, 0, 1), NOTHING);
        due("MISSING", x.copy(2, 9, 3, 0, 1), NOTHING);
        due("not of one sort, INDEX behind", x.copy(2, 9, 0, 0, 1), KIND);
        due("place -1", x.copy(0, -1, 1, 0, 1), INDEX);
        due("place 5", x.copy(0, 5, 1, 0, 1), INDEX);
        due("at -1", x.copy(0, 0, 1, -1, 1), INDEX);
        due("at 3", x.copy(0, 0, 1, 3, 1), INDEX);
        due("many 4", x.copy(0, 0, 1, 0, 4), INDEX);
        due("many -1", x.copy(0, 0, 1, 0, -1), INDEX);
        due("many MAX", x.copy(0, 1, 1, 1, MAX), INDEX);
        due("place MAX", x.copy(0, MAX, 1, 0, 1), INDEX);
        due("none", x.copy(0, 5, 1, 3, 0), 0);
        due("none, too far", x.copy(0, 6, 1, 3, 0), INDEX);
        due("three", x.copy(0, 2, 1, 0, 3), 3);
        x.lay(0, 2, 1);
        for (int i = 0; i < 3; i++) {
            due("came", x.item(0, i), 12 + i);
        }
        due("in itself, up", x.copy(0, 0, 0, 1, 4), 4);
        x.lay(0, 2, 0);
        int[] up = {10, 10, 11, 12, 13};
        for (int i = 0; i < 5; i++) {
            due("as they were", x.item(0, i), up[i]);
        }
        due("in itself, down", x.copy(0, 2, 0, 0, 3), 3);
        x.lay(0, 2, 0);
        int[] down = {11, 12, 13, 12, 13};
        for (int i = 0; i < 5; i++) {
            due("as they were", x.item(0, i), down[i]);
        }
        due("NO NUMBER too", x.copy(2, 1, 2, 3, 2), 2);
        x.lay(0, 2, 2);
        due("NO NUMBER", x.item(0, 3), KIND);
        due("a number", x.item(0, 4), 22);
    }

    private static void slots() {
        promise = 36;
        LevelCellars x = withCellars(3, 4);
        x.sheet(1, 0, 2);
        due("slot -1", x.lay(-1, 0, 0), BAD);
        due("slot 5", x.lay(5, 0, 0), BAD);
        due("thing -1", x.lay(0, -1, 0), BAD);
        due("thing 4", x.lay(0, 4, 0), BAD);
        due("cellar 2", x.lay(0, 1, 2), BAD);
        due("cellar -1", x.lay(0, 1, -1), BAD);
        due("sheet 4", x.lay(0, 2, 4), BAD);
        due("sheet -1", x.lay(0, 2, -1), BAD);
        due("MISSING", x.lay(0, 2, 0), NOTHING);
        due("still nothing", x.lay(0, 3, MIN), 0);
        due("a number", x.lay(0, 1, 1), 3);
        due("a cellar", x.lay(0, 2, 1), 1);
        due("a sheet, k any", x.lay(0, 0, MAX), 2);
        due("nothing", x.lay(0, 1, 0), 0);
        due("a fifth slot", x.lay(4, 1, 1), 0);

        promise = 37;
        due("WORTH of a VAULT", x.ask(0, 0), 52);
        due("as DEEP", x.ask(0, 1), 52);
        due("as VAULT", x.ask(0, 3), 52);
        due("as LEAKY", x.ask(0, 2), KIND);
        due("WORTH of a CHURCH", x.ask(4, 2), 71);
        due("kind 6", x.ask(0, 6), BAD);
        due("kind -1", x.ask(0, -1), BAD);
        due("slot 5", x.ask(5, 0), BAD);
        due("slot -1", x.ask(-1, 0), BAD);
        due("nothing", x.ask(1, 0), NOTHING);
        x.turns(0, 5);
        x.set(0, 2, 99);
        due("for good", x.ask(0, 3), 52);
        x.keep();
        x.lay(1, 3, 7);
        x.lay(2, 2, 1);
        due("a number", x.ask(1, 0), KIND);
        due("a sheet", x.ask(2, 0), KIND);

        promise = 38;
        x.mark(1, 1, 77);
        due("as it was", x.item(2, 1), 0);
        due("INDEX", x.item(2, 2), INDEX);
        due("INDEX", x.item(2, -1), INDEX);
        due("slot 5", x.item(5, 0), BAD);
        due("slot -1", x.item(-1, 0), BAD);
        due("nothing", x.item(3, 0), NOTHING);
        due("a number", x.item(1, 9), KIND);
        due("a cellar", x.item(0, 9), KIND);
        x.sheet(1, -1, 0);
        due("still there", x.item(2, 1), 0);

        promise = 39;
        due("7 by 4", x.rest(1, 4), 3);
        due("7 by -4", x.rest(1, -4), 3);
        due("by 0", x.rest(1, 0), NO);
        due("slot 5", x.rest(5, 0), BAD);
        due("slot -1", x.rest(-1, 1), BAD);
        due("nothing", x.rest(3, 0), NOTHING);
        due("a cellar", x.rest(0, 0), KIND);
        due("a sheet", x.rest(2, 1), KIND);
        x.lay(1, 3, MIN);
        due("MIN by -1", x.rest(1, -1), 0);
        due("MIN by 10", x.rest(1, 10), -8);
        x.back();
        due("an image leaves slots", x.rest(1, 10), -8);
        x.lay(1, 0, 5);
        due("nothing", x.rest(1, 10), NOTHING);
    }

    private static void tellHours(LevelCellars x, LevelCellars y, int n) {
        for (int i = 0; i < n; i++) {
            y.hours(1);
            x.tell(y.town(0));
            x.tell(y.town(1));
        }
    }

    private static void checks() {
        promise = 40;
        LevelCellars x = hill();
        for (int i = 1; i <= 60; i++) {
            due("tell", x.tell(i), i);
        }
        due("a 61st", x.tell(0), FULL);
        due("60 wait", x.count(6), 60);

        promise = 41;
        due("no image", x.check(1), NO);
        due("none wait", x.count(6), 0);
        x.tell(1);
        due("BAD", x.check(0), BAD);
        due("none wait", x.count(6), 0);
        due("BAD", x.check(31), BAD);
        due("BAD first", x.check(-1), BAD);
        text(x, "high f/9");
        x.keep();
        LevelCellars y = hill();
        text(y, "high f/9");
        text(x, "high 0");
        x.hours(10);
        due("missing from the first", x.check(3), 1);
        tellHours(x, y, 30);
        due("30 hours", x.check(30), 0);
        due("none wait", x.count(6), 0);
        y = hill();
        text(y, "high f/9");
        tellHours(x, y, 2);
        due("missing", x.check(3), 5);
        y = hill();
        text(y, "high f/9");
        tellHours(x, y, 3);
        due("one too many", x.check(2), 5);
        y = hill();
        text(y, "high f/9");
        tellHours(x, y, 1);
        y.hours(1);
        x.tell(y.town(0));
        due("half is missing", x.check(2), 4);
        x.tell(hill().behind(1, 0) + 100);
        due("the first is not", x.check(1), 1);
        y = hill();
        text(y, "high f/9");
        y.hours(1);
        x.tell(y.town(0));
        x.tell(y.town(1) + 1);
        x.tell(0);
        due("the second is not", x.check(5), 2);
        due("nothing has changed", x.count(2), 10);

        x = withCellars(0);
        wine(x, 0, 9, 0, 0);
        for (int i = 0; i < 99; i++) {
            x.hours(100);
        }
        x.hours(97);
        x.keep();
        for (int i = 0; i < 2; i++) {
            x.tell(9);
            x.tell(0);
        }
        due("no more than up to 9999", x.check(30), 0);
        for (int i = 0; i < 3; i++) {
            x.tell(9);
            x.tell(0);
        }
        due("one hour too many", x.check(30), 5);
        x.hours(2);
        x.keep();
        due("no hour at all", x.check(1), 0);
        x.tell(9);
        due("one too many", x.check(1), 1);
    }

    private static void images() {
        promise = 42;
        LevelCellars x = hill();
        due("keep", x.keep(), 4);
        due("nothing changes", x.count(0), 4);
        same(x, hill());

        promise = 43;
        text(x, "high f");
        text(x, "fee 5");
        text(x, "fine 6");
        x.hours(20);
        x.deal(4);
        x.pipe(0, 7, 9);
        x.cork(0, 1);
        x.turns(0, 5);
        x.set(0, 1, 3);
        x.set(1, 2, 3);
        x.thirst(99);
        x.tell(4);
        feed(x, "fee 777");
        x.sheet(0, 0, 2);
        x.mark(0, 1, 8);
        x.lay(2, 3, 44);
        due("back", x.back(), 4);
        due("numbers wait still", x.count(6), 1);
        due("the tape is as it was", x.count(7), 7);
        x.lay(1, 2, 0);
        due("sheets stay", x.item(1, 1), 8);
        due("slots stay", x.rest(2, 100), 44);
        due("no text counts", x.why(0), NONE);
        due("no text counts", x.why(1), NONE);
        due("no text counts", x.why(2), NONE);
        due("fine", x.fine(0), 250);
        due("text", x.text(), 0);
        due("fee", x.fee(), 777);
        due("again", x.back(), 4);
        due("fee", x.fee(), 0);
        x.check(1);
        same(x, hill());
        x.hours(3);
        LevelCellars y = hill();
        y.hours(3);
        same(x, y);
        text(x, "high f/3");
        text(y, "high f/3");
        due("another image", x.keep(), 4);
        text(x, "high f/2");
        due("text 1", x.why(0), 1);
        x.back();
        due("text 0", x.why(0), 0);
        same(x, y);
        x.hours(3);
        y.hours(3);
        same(x, y);
    }

    private static void counts() {
        promise = 44;
        LevelCellars x = hill();
        x.cork(0, 1);
        x.cork(1, 1);
        x.hours(2);
        x.seed(-3);
        text(x, "fee 1");
        feed(x, "fee 12");
        x.tell(0);
        x.tell(0);
        int[] want = {4, 3, 2, 30, 2, 1, 2, 6, -3};
        for (int what = 0; what < 9; what++) {
            due("count(" + what + ")", x.count(what), want[what]);
        }
        due("count(9)", x.count(9), BAD);
        due("count(-1)", x.count(-1), BAD);
        due("count(MIN)", x.count(MIN), BAD);
    }
}
