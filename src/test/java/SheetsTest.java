/** The sentences that name boundary cases of sheets and slots: promises 31 to 39. */
public final class SheetsTest extends Sentences {
    private static final int SHORTS = 0;
    private static final int FLOATS = 1;

    public static void main(String[] args) {
        sheets();
        marks();
        pours();
        reads();
        copyRefused();
        copies();
        lays();
        asks();
        items();
        rests();
        end(31, 39);
    }

    /** A sheet's places, seen through a slot; NONE stands for NO NUMBER. */
    private static void holds(LevelCellars x, int sheet, int... want) {
        x.lay(4, 2, sheet);
        for (int i = 0; i < want.length; i++) {
            due("place " + i, x.item(4, i), want[i] == NONE ? KIND : want[i]);
        }
        due("no place more", x.item(4, want.length), INDEX);
    }

    private static void sheets() {
        says(31, "SHEETS 0 .. 3 are rows of shorts (sort 0) or floats (1; whole numbers)", () -> {
            LevelCellars x = new LevelCellars();
            int[] odd = {MIN, -1, 4, MAX};
            for (int sheet : odd) {
                due("sheet " + sheet, x.sheet(sheet, SHORTS, 1), BAD);
                due("sheet " + sheet + ", MISSING", x.sheet(sheet, -1, 0), BAD);
            }
            int[] sorts = {MIN, -2, 2, MAX};
            for (int sort : sorts) {
                due("sort " + sort, x.sheet(0, sort, 1), BAD);
            }
            for (int sheet = 0; sheet < 4; sheet++) {
                due("MISSING still", x.reads(sheet), NOTHING);
            }
            due("0, of shorts", x.sheet(0, SHORTS, 1), 1);
            due("3, of floats", x.sheet(3, FLOATS, 1), 1);
            due("of shorts", x.mark(0, 0, NONE), KIND);
            due("of floats", x.mark(3, 0, NONE), 1);
        });
        says(31, "with 0 to 24 places", () -> {
            LevelCellars x = new LevelCellars();
            for (int sort = 0; sort < 2; sort++) {
                due("0", x.sheet(sort, sort, 0), 0);
                due("no place", x.mark(sort, 0, 1), INDEX);
                due("24", x.sheet(sort, sort, 24), 24);
                due("the last place", x.mark(sort, 23, 1), 1);
                due("no 25th place", x.mark(sort, 24, 1), INDEX);
                due("1", x.sheet(sort, sort, 1), 1);
                due("the only place", x.mark(sort, 0, 1), 1);
                due("no second place", x.mark(sort, 1, 1), INDEX);
            }
        });
        says(31, "BAD: sheet, sort, n above 24; SIZE.", () -> {
            LevelCellars x = new LevelCellars();
            sheet(x, 0, SHORTS, 7, 8);
            due("25", x.sheet(0, SHORTS, 25), BAD);
            due("25", x.sheet(0, FLOATS, 25), BAD);
            due("MAX", x.sheet(0, SHORTS, MAX), BAD);
            due("-1", x.sheet(0, SHORTS, -1), SIZE);
            due("-1", x.sheet(0, FLOATS, -1), SIZE);
            due("MIN", x.sheet(0, FLOATS, MIN), SIZE);
            due("BAD sheet ahead of SIZE", x.sheet(4, SHORTS, -1), BAD);
            due("BAD sheet ahead of SIZE", x.sheet(-1, SHORTS, -1), BAD);
            due("BAD sort ahead of SIZE", x.sheet(0, 2, -1), BAD);
            due("BAD sort ahead of SIZE", x.sheet(0, -2, -1), BAD);
            holds(x, 0, 7, 8);
        });
        says(31, "all 0 (sort -1: MISSING, n any): n (0).", () -> {
            LevelCellars x = new LevelCellars();
            int[] any = {MIN, -1, 0, 1, 24, 25, MAX};
            for (int n : any) {
                sheet(x, 1, FLOATS, NONE, 5, 6);
                due("sort -1, n " + n, x.sheet(1, -1, n), 0);
                due("MISSING", x.reads(1), NOTHING);
                due("MISSING still", x.sheet(1, -1, n), 0);
            }
            sheet(x, 1, FLOATS, NONE, 5, 6);
            due("anew", x.sheet(1, FLOATS, 3), 3);
            holds(x, 1, 0, 0, 0);
            sheet(x, 1, FLOATS, NONE, 5, 6);
            due("of another sort", x.sheet(1, SHORTS, 4), 4);
            holds(x, 1, 0, 0, 0, 0);
            sheet(x, 1, SHORTS, 1, 2, 3, 4);
            x.sheet(1, SHORTS, 1);
            due("fewer, then more", x.sheet(1, SHORTS, 4), 4);
            holds(x, 1, 0, 0, 0, 0);
        });
    }

    private static void marks() {
        says(32, "BAD: sheet; NOTHING; INDEX; KIND: NONE in a row of shorts; BAD: v of floats.", () -> {
            LevelCellars x = new LevelCellars();
            sheet(x, 0, SHORTS, 1, 2);
            sheet(x, 1, FLOATS, 3, 4);
            int[] odd = {MIN, -1, 4, MAX};
            for (int sheet : odd) {
                due("sheet " + sheet, x.mark(sheet, 0, 1), BAD);
                due("sheet " + sheet + ", and all else", x.mark(sheet, 9, NONE), BAD);
            }
            due("MISSING", x.mark(2, 0, 1), NOTHING);
            due("MISSING, ahead of INDEX", x.mark(3, -1, NONE), NOTHING);
            int[] none = {MIN, -1, 2, 24, MAX};
            for (int place : none) {
                due("place " + place + " of shorts", x.mark(0, place, 1), INDEX);
                due("place " + place + " of shorts, ahead of KIND", x.mark(0, place, NONE), INDEX);
                due("place " + place + " of floats, ahead of BAD", x.mark(1, place, 100000), INDEX);
            }
            due("NONE in shorts", x.mark(0, 0, NONE), KIND);
            due("v of floats", x.mark(1, 0, 100000), BAD);
            holds(x, 0, 1, 2);
            holds(x, 1, 3, 4);
        });
        says(32, "of shorts its lowest 16 bits", () -> {
            LevelCellars x = new LevelCellars();
            int[] v = {0, 1, -1, 32767, 32768, 65535, 65536, 65537, -32768, -32769, MIN, MAX, BAD, NONE + 1, NONE - 1};
            int[] want = {0, 1, -1, 32767, -32768, -1, 0, 1, -32768, 32767, 0, -1, 13823, 13820, 13818};
            x.sheet(0, SHORTS, 1);
            for (int i = 0; i < v.length; i++) {
                due("mark(0, 0, " + v[i] + ")", x.mark(0, 0, v[i]), 1);
                holds(x, 0, want[i]);
            }
        });
        says(32, "of floats v, -99999 .. 99999; NONE: NO NUMBER", () -> {
            LevelCellars x = new LevelCellars();
            sheet(x, 0, FLOATS, 7);
            int[] odd = {MIN, -100000, 100000, MAX, BAD, NO, FULL, NOTHING, KIND, INDEX, SIZE, NONE + 1, NONE - 1};
            for (int v : odd) {
                due("v " + v, x.mark(0, 0, v), BAD);
                holds(x, 0, 7);
            }
            int[] fine = {-99999, 99999, -99998, 99998, 32768, -32769, 65536, 0, -1, NONE};
            for (int v : fine) {
                due("v " + v, x.mark(0, 0, v), 1);
                holds(x, 0, v);
            }
            due("a number again", x.mark(0, 0, 5), 1);
            holds(x, 0, 5);
        });
    }

    private static void pours() {
        says(33, "becomes the places of a SHEET from 0 on (each held within 0 .. 999", () -> {
            LevelCellars x = withCellars(0, 1, 2, 3, 4, 5);
            sheet(x, 0, FLOATS, -1, 0, 999, 1000, 99999, -99999);
            for (int c = 0; c < 6; c++) {
                wine(x, c, 5, 6, 7);
            }
            due("all six are otherwise", x.pour(0), 6);
            int[] want = {0, 0, 999, 999, 999, 0};
            for (int c = 0; c < 6; c++) {
                due("SORT 0 of " + c, x.told(c, 8), want[c]);
                due("SORT 1 of " + c, x.told(c, 9), 6);
                due("SORT 2 of " + c, x.told(c, 10), 7);
            }
            due("HIGH then", x.told(2, 4), 102);
            sheet(x, 0, SHORTS, 1000, 999, -32768, 32767);
            due("three are otherwise", x.pour(0), 3);
            due("shorts: 999", x.told(0, 8), 999);
            due("shorts: 0", x.told(2, 8), 0);
            due("shorts: 999", x.told(3, 8), 999);
        });
        says(33, "NO NUMBER, and beyond the SHEET: it stays", () -> {
            LevelCellars x = withCellars(0, 0, 0);
            for (int c = 0; c < 3; c++) {
                wine(x, c, 50 + c, 0, 0);
            }
            sheet(x, 0, FLOATS, NONE, 9);
            due("one is otherwise", x.pour(0), 1);
            due("NO NUMBER", x.told(0, 8), 50);
            due("9", x.told(1, 8), 9);
            due("beyond the SHEET", x.told(2, 8), 52);
            x.sheet(0, SHORTS, 0);
            due("no places", x.pour(0), 0);
            due("it stays", x.told(0, 8), 50);
        });
        says(33, "how many are otherwise then. BAD; NOTHING.", () -> {
            LevelCellars x = withCellars(0, 0, 0);
            int[] odd = {MIN, -1, 4, MAX};
            for (int sheet : odd) {
                due("sheet " + sheet, x.pour(sheet), BAD);
            }
            for (int sheet = 0; sheet < 4; sheet++) {
                due("MISSING " + sheet, x.pour(sheet), NOTHING);
            }
            sheet(x, 3, SHORTS, 5, 0, 7);
            due("two of three", x.pour(3), 2);
            due("none any more", x.pour(3), 0);
            sheet(x, 3, FLOATS, 5, -9, 7);
            due("-9 held is 0, as it was", x.pour(3), 0);
            LevelCellars y = new LevelCellars();
            sheet(y, 3, SHORTS, 5, 6);
            due("without CELLARS", y.pour(3), 0);
            due("none came", y.count(0), 0);
        });
        says(33, "WINE of SORT 0 of CELLARS, by numbers", () -> {
            LevelCellars x = withCellars(0, 0, 0, 0, 0, 0, 0, 0);
            x.sheet(0, SHORTS, 24);
            for (int i = 0; i < 24; i++) {
                x.mark(0, i, 10 + i);
            }
            due("more places than CELLARS", x.pour(0), 8);
            for (int c = 0; c < 8; c++) {
                due("SORT 0 of " + c, x.told(c, 8), 10 + c);
                due("FULL of " + c, x.told(c, 3), 10 + c);
            }
        });
        says(33, "999 at most where it is told by set(), pour()", () -> {
            // More than 999 by what ran, then 999 at most by pour(): 445 run, 362 of 1444 go over the lip.
            LevelCellars x = new LevelCellars();
            x.cellar(0, 99, 99);
            x.cellar(0, 0, 99);
            wine(x, 0, 999, 0, 0);
            wine(x, 1, 999, 0, 0);
            x.pipe(0, 1, 9);
            x.hours(1);
            due("1082", x.told(1, 8), 1082);
            sheet(x, 0, FLOATS, NONE, 1082);
            due("it is otherwise", x.pour(0), 1);
            due("999", x.told(1, 8), 999);
        });
    }

    private static void reads() {
        says(34, "The first place (of numbers alone) at which a SHEET is not LEVEL of that CELLAR", () -> {
            LevelCellars x = withCellars(0, 2, 5);
            wine(x, 0, 99, 0, 0);
            wine(x, 1, 9, 0, 0);
            wine(x, 2, 999, 0, 0);
            sheet(x, 0, SHORTS, 19, 11, 10);
            due("none", x.reads(0), NONE);
            for (int place = 2; place >= 0; place--) {
                int was = x.told(place, 5);
                x.mark(0, place, was - 1);
                due("1 too little at " + place, x.reads(0), place);
                x.mark(0, place, was + 1);
                due("1 too much at " + place, x.reads(0), place);
            }
            sheet(x, 0, FLOATS, NONE, 11, 10);
            due("NO NUMBER", x.reads(0), NONE);
            sheet(x, 0, FLOATS, NONE, NONE, 11);
            due("behind two of them", x.reads(0), 2);
            sheet(x, 0, FLOATS, 19, 11);
            due("a shorter one", x.reads(0), NONE);
        });
        says(34, "(of places that are no CELLAR all numbers are not)", () -> {
            LevelCellars x = withCellars(0);
            sheet(x, 0, FLOATS, 10, 0);
            due("0 at no CELLAR", x.reads(0), 1);
            sheet(x, 0, FLOATS, 10, NONE, NONE, 10);
            due("10 at no CELLAR", x.reads(0), 3);
            sheet(x, 0, FLOATS, 10, NONE);
            due("NO NUMBER at no CELLAR", x.reads(0), NONE);
            LevelCellars y = new LevelCellars();
            y.sheet(0, SHORTS, 1);
            due("without CELLARS", y.reads(0), 0);
            LevelCellars z = withCellars(0, 0, 0, 0, 0, 0, 0, 0);
            z.sheet(0, FLOATS, 24);
            for (int i = 0; i < 23; i++) {
                z.mark(0, i, i < 8 ? 10 : NONE);
            }
            due("the last place", z.reads(0), 23);
        });
        says(34, "BAD; NOTHING; NONE: there is none.", () -> {
            LevelCellars x = withCellars(0);
            int[] odd = {MIN, -1, 4, MAX};
            for (int sheet : odd) {
                due("sheet " + sheet, x.reads(sheet), BAD);
            }
            for (int sheet = 0; sheet < 4; sheet++) {
                due("MISSING " + sheet, x.reads(sheet), NOTHING);
            }
            x.sheet(3, FLOATS, 0);
            due("no places", x.reads(3), NONE);
        });
    }

    private static void copyRefused() {
        says(35, "BAD; NOTHING; KIND: they are not of one sort; INDEX.", () -> {
            LevelCellars x = new LevelCellars();
            sheet(x, 0, SHORTS, 1, 2, 3);
            sheet(x, 1, FLOATS, 4, 5, 6);
            int[] odd = {MIN, -1, 4, MAX};
            for (int sheet : odd) {
                due("from " + sheet, x.copy(sheet, 0, 0, 0, 1), BAD);
                due("to " + sheet, x.copy(0, 0, sheet, 0, 1), BAD);
                due("from " + sheet + ", ahead of NOTHING", x.copy(sheet, 0, 2, 0, 1), BAD);
                due("to " + sheet + ", ahead of NOTHING", x.copy(2, 0, sheet, 0, 1), BAD);
                due("to " + sheet + ", ahead of INDEX", x.copy(0, -1, sheet, 9, -1), BAD);
            }
            due("from MISSING", x.copy(2, 0, 0, 0, 1), NOTHING);
            due("to MISSING", x.copy(0, 0, 2, 0, 1), NOTHING);
            due("both MISSING", x.copy(2, 0, 2, 0, 0), NOTHING);
            due("MISSING, ahead of INDEX", x.copy(3, 9, 0, 9, 9), NOTHING);
            due("shorts to floats", x.copy(0, 0, 1, 0, 1), KIND);
            due("floats to shorts", x.copy(1, 0, 0, 0, 1), KIND);
            due("none of them", x.copy(1, 0, 0, 0, 0), KIND);
            due("KIND ahead of INDEX", x.copy(1, 9, 0, -1, 9), KIND);
            holds(x, 0, 1, 2, 3);
            holds(x, 1, 4, 5, 6);
        });
        says(35, "INDEX: there is no such place", () -> {
            LevelCellars x = new LevelCellars();
            sheet(x, 0, SHORTS, 1, 2, 3);
            sheet(x, 1, SHORTS, 4, 5, 6, 7, 8);
            int[][] places = {{-1, 0, 1}, {0, -1, 1}, {3, 0, 1}, {0, 5, 1}, {0, 0, 4}, {1, 0, 3}, {0, 3, 3}, {2, 0, 2},
                {MIN, 0, 1}, {0, MIN, 1}, {MAX, 0, 1}, {0, MAX, 1}, {0, 0, MAX}, {1, 1, MAX}, {MAX, MAX, MAX}, {MIN, MIN, MIN},
                {MAX, 0, MIN}, {0, 0, -1}, {0, 0, MIN}, {2, 2, -1}, {4, 0, 0}, {0, 6, 0}, {-1, 0, 0}, {0, -1, 0}};
            for (int[] p : places) {
                due("copy(0, " + p[0] + ", 1, " + p[1] + ", " + p[2] + ")", x.copy(0, p[0], 1, p[1], p[2]), INDEX);
            }
            due("in itself, too far", x.copy(0, 0, 0, 1, 3), INDEX);
            holds(x, 0, 1, 2, 3);
            holds(x, 1, 4, 5, 6, 7, 8);
        });
    }

    private static void copies() {
        says(35, "So many places of a SHEET come to another one (or the same), as they were: many.", () -> {
            LevelCellars x = new LevelCellars();
            sheet(x, 0, SHORTS, 1, 2, 3);
            sheet(x, 1, SHORTS, 4, 5, 6, 7, 8);
            due("none", x.copy(0, 0, 1, 0, 0), 0);
            due("none, behind the last places", x.copy(0, 3, 1, 5, 0), 0);
            holds(x, 1, 4, 5, 6, 7, 8);
            due("one, the last to the last", x.copy(0, 2, 1, 4, 1), 1);
            holds(x, 1, 4, 5, 6, 7, 3);
            due("all", x.copy(0, 0, 1, 1, 3), 3);
            holds(x, 1, 4, 1, 2, 3, 3);
            holds(x, 0, 1, 2, 3);
            x.mark(0, 0, 99);
            holds(x, 1, 4, 1, 2, 3, 3);
            x.sheet(2, SHORTS, 24);
            x.sheet(3, SHORTS, 24);
            x.mark(2, 23, 9);
            due("24", x.copy(2, 0, 3, 0, 24), 24);
            x.lay(0, 2, 3);
            due("the last one", x.item(0, 23), 9);
            x.sheet(2, SHORTS, 0);
            due("none of none", x.copy(2, 0, 2, 0, 0), 0);
        });
        says(35, "(or the same), as they were", () -> {
            LevelCellars x = new LevelCellars();
            sheet(x, 0, FLOATS, 1, 2, NONE, 4, 5);
            due("up", x.copy(0, 0, 0, 1, 4), 4);
            holds(x, 0, 1, 1, 2, NONE, 4);
            due("down", x.copy(0, 1, 0, 0, 4), 4);
            holds(x, 0, 1, 2, NONE, 4, 4);
            due("onto itself", x.copy(0, 0, 0, 0, 5), 5);
            holds(x, 0, 1, 2, NONE, 4, 4);
        });
        says(35, "A place of floats may be NO NUMBER.", () -> {
            LevelCellars x = new LevelCellars();
            sheet(x, 0, FLOATS, NONE, 99999);
            sheet(x, 1, FLOATS, 1, NONE);
            due("copy", x.copy(0, 0, 1, 0, 2), 2);
            holds(x, 1, NONE, 99999);
        });
    }

    private static void lays() {
        says(36, "thing 0 nothing, 1 CELLAR k, 2 SHEET k, 3 the number k: what it held (0 .. 3).", () -> {
            LevelCellars x = withCellars(0);
            x.sheet(1, SHORTS, 2);
            int[] k = {MAX, 0, 1, MIN};
            for (int was = 0; was < 4; was++) {
                for (int thing = 0; thing < 4; thing++) {
                    for (int slot = 0; slot < 5; slot += 4) {
                        x.lay(slot, was, k[was]);
                        due("lay(" + slot + ", " + thing + ") on " + was, x.lay(slot, thing, k[thing]), was);
                        due("and then", x.lay(slot, 0, 0), thing);
                    }
                }
            }
        });
        says(36, "BAD: slot, thing, k; NOTHING: that SHEET is MISSING.", () -> {
            LevelCellars x = withCellars(0, 0);
            x.lay(2, 3, 77);
            int[] odd = {MIN, -1, 5, MAX};
            for (int slot : odd) {
                for (int thing = 0; thing < 4; thing++) {
                    due("slot " + slot, x.lay(slot, thing, 0), BAD);
                }
            }
            int[] things = {MIN, -1, 4, MAX};
            for (int thing : things) {
                due("thing " + thing, x.lay(2, thing, 0), BAD);
            }
            int[] none = {MIN, -1, 2, 8, MAX};
            for (int k : none) {
                due("CELLAR " + k, x.lay(2, 1, k), BAD);
            }
            int[] sheets = {MIN, -1, 4, MAX};
            for (int k : sheets) {
                due("SHEET " + k, x.lay(2, 2, k), BAD);
            }
            for (int k = 0; k < 4; k++) {
                due("MISSING " + k, x.lay(2, 2, k), NOTHING);
                due("BAD slot ahead of NOTHING", x.lay(5, 2, k), BAD);
            }
            due("77 still", x.rest(2, 100), 77);
            due("a number any", x.lay(2, 3, MIN), 3);
            due("nothing, k any", x.lay(2, 0, MAX), 3);
            due("the last CELLAR", x.lay(4, 1, 1), 0);
            x.sheet(3, SHORTS, 0);
            due("the last SHEET, without places", x.lay(4, 2, 3), 1);
        });
        says(36, "a CELLAR (as it is then, for good)", () -> {
            LevelCellars x = withCellars(3);
            x.keep();
            x.lay(0, 1, 0);
            due("WORTH 2 * 26", x.ask(0, 3), 52);
            x.turns(0, 5);
            x.set(0, 2, 99);
            due("52 still", x.ask(0, 3), 52);
            due("it is no SEALED one", x.ask(0, 5), KIND);
            LevelCellars y = new LevelCellars();
            y.keep();
            y.cellar(1, 0, 10);
            y.lay(0, 1, 0);
            y.back();
            due("there is no CELLAR any more", y.count(0), 0);
            due("it is held still", y.ask(0, 1), 16);
        });
        says(36, "a SHEET (a row of its own, as it was then)", () -> {
            LevelCellars x = new LevelCellars();
            sheet(x, 0, FLOATS, 1, NONE, 3);
            x.lay(0, 2, 0);
            x.lay(1, 2, 0);
            x.mark(0, 0, 9);
            x.mark(0, 1, 9);
            x.lay(1, 2, 0);
            due("as it was", x.item(0, 0), 1);
            due("NO NUMBER", x.item(0, 1), KIND);
            due("as it was later", x.item(1, 0), 9);
            x.sheet(0, -1, 0);
            due("though it is MISSING", x.item(0, 2), 3);
            x.sheet(0, SHORTS, 24);
            due("though it has more places", x.item(0, 3), INDEX);
        });
    }

    private static void asks() {
        says(37, "WORTH of the CELLAR in a SLOT, taken for one of a KIND (0 .. 5).", () -> {
            LevelCellars x = withCellars(0, 1, 2, 3, 4, 5);
            int[] worth = {20, 26, 79, 52, 71, 3};
            String[] over = {"0", "01", "02", "013", "024", "05"};
            for (int c = 0; c < 6; c++) {
                x.lay(c % 5, 1, c);
                for (int kind = 0; kind < 6; kind++) {
                    boolean is = over[c].indexOf('0' + kind) >= 0;
                    due("CELLAR " + c + " for " + kind, x.ask(c % 5, kind), is ? worth[c] : KIND);
                }
            }
        });
        says(37, "BAD; NOTHING; KIND: it is no CELLAR, or not of that KIND, nor of one under it.", () -> {
            LevelCellars x = withCellars(0);
            x.sheet(0, SHORTS, 1);
            x.lay(0, 1, 0);
            x.lay(1, 2, 0);
            x.lay(2, 3, 0);
            int[] slots = {MIN, -1, 5, MAX};
            for (int slot : slots) {
                due("slot " + slot, x.ask(slot, 0), BAD);
            }
            int[] kinds = {MIN, -1, 6, MAX};
            for (int kind : kinds) {
                for (int slot = 0; slot < 5; slot++) {
                    due("kind " + kind + ", slot " + slot, x.ask(slot, kind), BAD);
                }
            }
            due("a SHEET", x.ask(1, 0), KIND);
            due("a number", x.ask(2, 0), KIND);
            due("nothing", x.ask(3, 0), NOTHING);
            due("nothing, the last SLOT", x.ask(4, 5), NOTHING);
            due("no DEEP one", x.ask(0, 1), KIND);
            x.lay(0, 0, 0);
            due("nothing any more", x.ask(0, 0), NOTHING);
        });
    }

    private static void items() {
        says(38, "BAD: slot; NOTHING; KIND: it is no SHEET; INDEX; KIND: NO NUMBER.", () -> {
            LevelCellars x = withCellars(0);
            sheet(x, 0, FLOATS, NONE, 2);
            x.lay(0, 2, 0);
            x.lay(1, 1, 0);
            x.lay(2, 3, 0);
            int[] slots = {MIN, -1, 5, MAX};
            for (int slot : slots) {
                due("slot " + slot, x.item(slot, 0), BAD);
                due("slot " + slot + ", ahead of INDEX", x.item(slot, -1), BAD);
            }
            due("nothing", x.item(3, 0), NOTHING);
            due("nothing, ahead of INDEX", x.item(4, -1), NOTHING);
            due("a CELLAR", x.item(1, 0), KIND);
            due("a CELLAR, ahead of INDEX", x.item(1, -1), KIND);
            due("a number", x.item(2, 0), KIND);
            due("a number, ahead of INDEX", x.item(2, 99), KIND);
            int[] none = {MIN, -1, 2, 24, MAX};
            for (int place : none) {
                due("place " + place, x.item(0, place), INDEX);
            }
            due("NO NUMBER", x.item(0, 0), KIND);
            due("the last place", x.item(0, 1), 2);
        });
        says(38, "with 0 to 24 places", () -> {
            LevelCellars x = new LevelCellars();
            x.sheet(0, SHORTS, 0);
            x.lay(0, 2, 0);
            due("no places", x.item(0, 0), INDEX);
            x.sheet(0, SHORTS, 24);
            x.mark(0, 23, -32768);
            x.lay(4, 2, 0);
            due("the last place", x.item(4, 23), -32768);
            due("no place 24", x.item(4, 24), INDEX);
        });
    }

    private static void rests() {
        says(39, "The rest of the number in a SLOT by n. BAD: slot; NOTHING; KIND: it is no number; NO: n is 0.", () -> {
            LevelCellars x = withCellars(0);
            x.sheet(0, SHORTS, 1);
            x.lay(0, 1, 0);
            x.lay(1, 2, 0);
            x.lay(2, 3, 0);
            int[] slots = {MIN, -1, 5, MAX};
            for (int slot : slots) {
                due("slot " + slot, x.rest(slot, 1), BAD);
                due("slot " + slot + ", ahead of NO", x.rest(slot, 0), BAD);
            }
            due("nothing", x.rest(3, 1), NOTHING);
            due("nothing, ahead of NO", x.rest(4, 0), NOTHING);
            due("a CELLAR", x.rest(0, 1), KIND);
            due("a CELLAR, ahead of NO", x.rest(0, 0), KIND);
            due("a SHEET", x.rest(1, 1), KIND);
            due("a SHEET, ahead of NO", x.rest(1, 0), KIND);
            due("by 0", x.rest(2, 0), NO);
            due("0 by 1", x.rest(2, 1), 0);
            x.lay(2, 0, 7);
            due("nothing any more", x.rest(2, 1), NOTHING);
        });
        says(39, "All numbers are whole; / cuts towards 0.", () -> {
            LevelCellars x = new LevelCellars();
            int[] k = {7, -7, 7, -7, MIN, MIN, MIN, MAX, MAX, 0, NONE, BAD};
            int[] n = {4, 4, -4, -4, -1, 1, MIN, MIN, -1, MIN, MAX, BAD};
            int[] want = {3, -3, 3, -3, 0, 0, 0, MAX, 0, 0, NONE, 0};
            for (int i = 0; i < k.length; i++) {
                x.lay(4, 3, k[i]);
                due(k[i] + " by " + n[i], x.rest(4, n[i]), want[i]);
            }
        });
    }
}
