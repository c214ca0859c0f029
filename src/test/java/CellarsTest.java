/** The sentences that name boundary cases of cellars and pipes: promises 1 to 13. */
public final class CellarsTest extends Sentences {
    public static void main(String[] args) {
        newObject();
        cellar();
        told();
        highOfKinds();
        losesAndWorth();
        takes();
        as();
        turns();
        set();
        pipe();
        pipeOf();
        runs();
        cork();
        thirst();
        deal();
        seed();
        end(1, 13);
    }

    private static void newObject() {
        says(1, "As told; no CELLARS, no PIPES.", () -> {
            LevelCellars x = new LevelCellars();
            due("count(0)", x.count(0), 0);
            due("count(1)", x.count(1), 0);
            due("told(0, 0)", x.told(0, 0), BAD);
            due("pipeOf(0, 0)", x.pipeOf(0, 0), BAD);
            due("count(4)", x.count(4), 0);
        });
        says(1, "SPILT is 0 at first.", () -> due("town(1)", new LevelCellars().town(1), 0));
        says(1, "THIRST is 0 .. 100 (0 at first).", () -> due("thirst(5)", new LevelCellars().thirst(5), 0));
        says(1, "THE HOUR is 0 at first, 9999 at most.", () -> due("count(2)", new LevelCellars().count(2), 0));
        says(1, "z is told (1 at first).", () -> due("seed(5)", new LevelCellars().seed(5), 1));
        says(1, "TEXTS, 14 at most, numbered from 0", () -> {
            LevelCellars x = new LevelCellars();
            due("count(5)", x.count(5), 0);
            due("textTold(0, 0)", x.textTold(0, 0), BAD);
            for (int key = 0; key < 3; key++) {
                due("why(" + key + ")", x.why(key), NONE);
            }
        });
        says(1, "THE TAPE (96 bytes at most", () -> due("count(7)", new LevelCellars().count(7), 0));
        says(1, "or MISSING (at first)", () -> {
            LevelCellars x = new LevelCellars();
            for (int sheet = 0; sheet < 4; sheet++) {
                due("reads(" + sheet + ")", x.reads(sheet), NOTHING);
            }
        });
        says(1, "SLOTS 0 .. 4 each hold nothing (at first)", () -> {
            LevelCellars x = new LevelCellars();
            for (int slot = 0; slot < 5; slot++) {
                due("item(" + slot + ", 0)", x.item(slot, 0), NOTHING);
                due("lay(" + slot + ", 0, 0)", x.lay(slot, 0, 0), 0);
            }
        });
        says(1, "AN IMAGE keeps all", () -> {
            LevelCellars x = new LevelCellars();
            due("back(): no image yet", x.back(), NO);
            due("check(1)", x.check(1), NO);
            due("no number waits", x.count(6), 0);
        });
        says(1, "An object is used for at most 512 calls after it has been made", () -> {
            LevelCellars x = new LevelCellars();
            for (int i = 0; i < 511; i++) {
                x.seed(i);
            }
            due("the 512th call", x.seed(7), 510);
            LevelCellars y = new LevelCellars();
            due("another object is new", y.seed(7), 1);
            x.cellar(0, 1, 1);
            due("and has cellars of its own", y.count(0), 0);
        });
    }

    private static void cellar() {
        says(2, "CELLARS, 8 at most, numbered from 0", () -> {
            LevelCellars x = new LevelCellars();
            for (int i = 0; i < 8; i++) {
                due("cellar " + i, x.cellar(0, i, 1), i);
            }
            due("a ninth", x.cellar(0, 8, 1), FULL);
            due("eight still", x.count(0), 8);
            due("the last one still", x.told(7, 1), 7);
        });
        says(2, "FLOOR 0 .. 99 (height)", () -> {
            LevelCellars x = new LevelCellars();
            due("-1", x.cellar(0, -1, 1), BAD);
            due("MIN", x.cellar(0, MIN, 1), BAD);
            due("100", x.cellar(0, 100, 1), BAD);
            due("MAX", x.cellar(0, MAX, 1), BAD);
            due("none came", x.count(0), 0);
            due("0", x.cellar(0, 0, 1), 0);
            due("99", x.cellar(0, 99, 1), 1);
            due("it is 0", x.told(0, 1), 0);
            due("it is 99", x.told(1, 1), 99);
        });
        says(2, "LIP 1 .. 99 (how high wine can stand above its FLOOR)", () -> {
            LevelCellars x = new LevelCellars();
            due("0", x.cellar(0, 0, 0), BAD);
            due("-1", x.cellar(0, 0, -1), BAD);
            due("MIN", x.cellar(0, 0, MIN), BAD);
            due("100", x.cellar(0, 0, 100), BAD);
            due("MAX", x.cellar(0, 0, MAX), BAD);
            due("none came", x.count(0), 0);
            due("1", x.cellar(0, 0, 1), 0);
            due("99", x.cellar(0, 0, 99), 1);
            due("it is 1", x.told(0, 2), 1);
            due("it is 99", x.told(1, 2), 99);
        });
        says(2, "of KINDS: 0 CELLAR; 1 DEEP, 2 LEAKY, 5 SEALED, under CELLAR; 3 VAULT, under DEEP; 4 CHURCH, under LEAKY", () -> {
            LevelCellars x = new LevelCellars();
            due("-1", x.cellar(-1, 0, 1), BAD);
            due("MIN", x.cellar(MIN, 0, 1), BAD);
            due("6", x.cellar(6, 0, 1), BAD);
            due("MAX", x.cellar(MAX, 0, 1), BAD);
            due("none came", x.count(0), 0);
            for (int kind = 0; kind < 6; kind++) {
                due("kind " + kind, x.cellar(kind, 0, 1), kind);
                due("it is " + kind, x.told(kind, 0), kind);
            }
        });
        says(2, "One more CELLAR: its number. BAD; FULL.", () -> {
            LevelCellars x = withCellars(0, 0, 0, 0, 0, 0, 0, 0);
            due("a bad KIND ahead of FULL", x.cellar(6, 0, 1), BAD);
            due("a bad FLOOR ahead of FULL", x.cellar(0, 100, 1), BAD);
            due("a bad LIP ahead of FULL", x.cellar(0, 0, 0), BAD);
        });
        says(2, "WINE of each SORT 0 .. 2 (drops; 0 at first", () -> {
            LevelCellars x = withCellars(0);
            x.keep();
            x.cellar(2, 5, 5);
            wine(x, 1, 100, 200, 300);
            x.back();
            due("one more behind an image", x.cellar(0, 10, 20), 1);
            for (int what = 8; what <= 10; what++) {
                due("told(0, " + what + ")", x.told(0, what), 0);
                due("nothing of what stood there", x.told(1, what), 0);
            }
            due("FULL", x.told(1, 3), 0);
            due("HIGH", x.told(1, 4), 0);
        });
        says(2, "CELLAR: what high gives, held within 0 .. 999", () -> {
            LevelCellars x = new LevelCellars();
            text(x, "high f+l+3");
            due("one that is empty", x.cellar(0, 10, 20), 0);
            due("has its HIGH", x.told(0, 4), 23);
            due("and its LEVEL", x.told(0, 5), 33);
        });
    }

    private static void told() {
        says(3, "what 0 KIND, 1 FLOOR, 2 LIP, 3 FULL, 4 HIGH, 5 LEVEL, 6 LOSES, 7 WORTH; 8, 9, 10: WINE of SORT 0, 1, 2. BAD.", () -> {
            LevelCellars x = withCellars(2, 0);
            wine(x, 0, 100, 20, 3);
            int[] want = {2, 10, 20, 123, 13, 23, 6, 79, 100, 20, 3};
            for (int what = 0; what <= 10; what++) {
                due("what " + what, x.told(0, what), want[what]);
            }
            int[] odd = {MIN, -1, 11, MAX};
            for (int what : odd) {
                due("what " + what, x.told(0, what), BAD);
            }
            int[] none = {MIN, -1, 2, 8, MAX};
            for (int cellar : none) {
                for (int what = 0; what <= 10; what++) {
                    due("cellar " + cellar + ", what " + what, x.told(cellar, what), BAD);
                }
            }
        });
        says(3, "FULL of a CELLAR: its WINE of all SORTS, together.", () -> {
            LevelCellars x = withCellars(0);
            due("nothing", x.told(0, 3), 0);
            wine(x, 0, 999, 999, 999);
            due("all that set() allows", x.told(0, 3), 2997);
            due("LEVEL of it", x.told(0, 5), 309);
        });
        says(3, "All numbers are whole; / cuts towards 0.", () -> {
            LevelCellars x = withCellars(0);
            wine(x, 0, 19, 0, 0);
            due("19 / 10", x.told(0, 4), 1);
            text(x, "fine (0-19)/10");
            due("-19 / 10", x.fine(0), -1);
        });
    }

    private static void highs(LevelCellars x, int cellar, int[] full, int[] high) {
        for (int i = 0; i < full.length; i++) {
            wine(x, cellar, 0, 0, full[i]);
            due("HIGH of " + full[i] + " drops", x.told(cellar, 4), high[i]);
            due("LEVEL of " + full[i] + " drops", x.told(cellar, 5), x.told(cellar, 1) + high[i]);
        }
    }

    private static void highOfKinds() {
        says(3, "(without a TEXT: FULL / 10)", () ->
            highs(withCellars(0), 0, new int[] {0, 1, 9, 10, 11, 19, 20, 999}, new int[] {0, 0, 0, 1, 1, 1, 2, 99}));
        says(3, "CELLAR: what high gives, held within 0 .. 999", () -> {
            LevelCellars x = withCellars(0);
            String[] texts = {"high 998", "high 999", "high 998+1+1", "high 9999*9999", "high 0", "high 1-2", "high 1-9999",
                "high 9999*9999*9999*22", "high 0-2*1024*1024*1024"};
            int[] high = {998, 999, 999, 999, 0, 0, 0, 0, 0};
            for (int i = 0; i < texts.length; i++) {
                due(texts[i], text(x, texts[i]), i);
                due("HIGH by " + texts[i], x.told(0, 4), high[i]);
                due("LEVEL by " + texts[i], x.told(0, 5), 10 + high[i]);
            }
        });
        says(3, "DEEP: half (cut) of as CELLAR.", () -> {
            LevelCellars x = withCellars(1);
            highs(x, 0, new int[] {0, 9, 10, 19, 20, 39, 40, 999}, new int[] {0, 0, 0, 0, 1, 1, 2, 49});
            text(x, "high 999");
            due("half of 999", x.told(0, 4), 499);
            text(x, "high 9999");
            due("half of what is held", x.told(0, 4), 499);
            text(x, "high 0-9");
            due("half of 0, held before", x.told(0, 4), 0);
        });
        says(3, "VAULT: as DEEP, less 2 (0 at least).", () -> {
            LevelCellars x = withCellars(3);
            highs(x, 0, new int[] {0, 20, 39, 40, 59, 60, 79, 80, 999}, new int[] {0, 0, 0, 0, 0, 1, 1, 2, 47});
            text(x, "high 9999");
            due("of what is held", x.told(0, 4), 497);
        });
        says(3, "LEAKY: as CELLAR, and 1, if there is any.", () -> {
            LevelCellars x = withCellars(2);
            highs(x, 0, new int[] {0, 1, 9, 10, 999}, new int[] {0, 1, 1, 2, 100});
            wine(x, 0, 1, 0, 0);
            due("a drop of SORT 0", x.told(0, 4), 1);
            wine(x, 0, 0, 1, 0);
            due("a drop of SORT 1", x.told(0, 4), 1);
            text(x, "high 9999");
            due("1 above what is held", x.told(0, 4), 1000);
            wine(x, 0, 0, 0, 0);
            due("without any", x.told(0, 4), 999);
        });
        says(3, "CHURCH: as LEAKY. SEALED: 0.", () -> {
            LevelCellars x = withCellars(4, 5);
            highs(x, 0, new int[] {0, 1, 9, 10, 999}, new int[] {0, 1, 1, 2, 100});
            highs(x, 1, new int[] {0, 1, 10, 999}, new int[] {0, 0, 0, 0});
            text(x, "high 9999");
            due("a CHURCH, 1 above what is held", x.told(0, 4), 1000);
            due("a SEALED one", x.told(1, 4), 0);
            due("a SEALED one's LEVEL", x.told(1, 5), 10);
        });
        says(3, "LEVEL: FLOOR and HIGH.", () -> {
            LevelCellars x = new LevelCellars();
            x.cellar(2, 99, 1);
            x.cellar(0, 0, 1);
            due("FLOOR 0, nothing in it", x.told(1, 5), 0);
            text(x, "high 999");
            wine(x, 0, 0, 0, 1);
            due("the highest of all", x.told(0, 5), 1099);
        });
    }

    private static void losesAndWorth() {
        says(3, "LEAKY: FULL / 20.", () -> {
            LevelCellars x = withCellars(2);
            int[] full = {0, 1, 19, 20, 39, 40, 999};
            int[] loses = {0, 0, 0, 1, 1, 2, 49};
            for (int i = 0; i < full.length; i++) {
                x.set(0, 9, full[i]);
                due("LOSES of " + full[i], x.told(0, 6), loses[i]);
            }
        });
        says(3, "CHURCH: as LEAKY, less 1 (0 at least).", () -> {
            LevelCellars x = withCellars(4);
            int[] full = {0, 19, 20, 39, 40, 59, 60, 999};
            int[] loses = {0, 0, 0, 0, 1, 1, 2, 48};
            for (int i = 0; i < full.length; i++) {
                x.set(0, 9, full[i]);
                due("LOSES of " + full[i], x.told(0, 6), loses[i]);
            }
        });
        says(3, "(DEEP, VAULT, SEALED as CELLAR.)", () -> {
            LevelCellars x = withCellars(0, 1, 3, 5);
            for (int c = 0; c < 4; c++) {
                wine(x, c, 999, 999, 999);
                due("LOSES of " + c, x.told(c, 6), 0);
            }
        });
        says(3, "WORTH: CELLAR: LIP. DEEP: as CELLAR, and 6. VAULT: twice as DEEP. LEAKY: 99 less LIP. CHURCH: as LEAKY, less 8. "
            + "SEALED: 3.", () -> {
                int[] least = {1, 7, 98, 14, 90, 3};
                int[] most = {99, 105, 0, 210, -8, 3};
                LevelCellars x = withCellars(0, 1, 2, 3, 4, 5);
                for (int c = 0; c < 6; c++) {
                    x.set(c, 2, 1);
                    due("WORTH of kind " + c + ", LIP 1", x.told(c, 7), least[c]);
                    x.set(c, 2, 99);
                    due("WORTH of kind " + c + ", LIP 99", x.told(c, 7), most[c]);
                }
            });
    }

    private static void takes() {
        says(4, "What a CELLAR TAKES IN of n (0 .. 9999) drops. BAD.", () -> {
            LevelCellars x = withCellars(0, 3, 5);
            int[] odd = {MIN, -1, 10000, MAX};
            for (int n : odd) {
                for (int c = 0; c < 3; c++) {
                    due("takes(" + c + ", " + n + ")", x.takes(c, n), BAD);
                }
            }
            int[] none = {MIN, -1, 3, 8, MAX};
            for (int c : none) {
                due("cellar " + c, x.takes(c, 1), BAD);
            }
            due("0", x.takes(0, 0), 0);
            due("9999", x.takes(0, 9999), 9999);
        });
        says(4, "CELLAR: all. VAULT: half (cut). SEALED: 0. (The others as the one above.)", () -> {
            LevelCellars x = withCellars(0, 1, 2, 3, 4, 5);
            int[] drops = {0, 1, 2, 3, 9998, 9999};
            for (int n : drops) {
                for (int c = 0; c < 6; c++) {
                    due("takes(" + c + ", " + n + ")", x.takes(c, n), c == 5 ? 0 : c == 3 ? n / 2 : n);
                }
            }
            wine(x, 0, 999, 999, 999);
            due("whatever is in it", x.takes(0, 9999), 9999);
        });
    }

    private static void as() {
        says(5, "A CELLAR as one of a KIND: LIP. BAD: cellar, kind; KIND: it is not of that KIND, nor of one under it.", () -> {
            String[] over = {"0", "01", "02", "013", "024", "05"};
            LevelCellars x = withCellars(0, 1, 2, 3, 4, 5);
            for (int c = 0; c < 6; c++) {
                x.set(c, 2, 40 + c);
                for (int kind = 0; kind < 6; kind++) {
                    boolean is = over[c].indexOf('0' + kind) >= 0;
                    due("as(" + c + ", " + kind + ")", x.as(c, kind), is ? 40 + c : KIND);
                }
            }
        });
        says(5, "BAD: cellar, kind;", () -> {
            LevelCellars x = withCellars(0);
            int[] odd = {MIN, -1, 6, MAX};
            for (int v : odd) {
                due("kind " + v, x.as(0, v), BAD);
                due("cellar " + v, x.as(v, 0), BAD);
                due("cellar " + v + ", which is no DEEP one", x.as(v, 1), BAD);
            }
            due("cellar 1", x.as(1, 0), BAD);
        });
    }

    private static void turns() {
        says(6, "A CELLAR is of another KIND from now on: what it was. BAD.", () -> {
            LevelCellars x = withCellars(0);
            wine(x, 0, 999, 1, 0);
            int[] high = {100, 50, 101, 48, 101, 0};
            int[] loses = {0, 0, 50, 0, 49, 0};
            for (int kind = 1; kind < 6; kind++) {
                due("turns(0, " + kind + ")", x.turns(0, kind), kind - 1);
                due("it is " + kind, x.told(0, 0), kind);
                due("its HIGH", x.told(0, 4), high[kind]);
                due("its LOSES", x.told(0, 6), loses[kind]);
            }
            due("back to 0", x.turns(0, 0), 5);
            due("its HIGH", x.told(0, 4), 100);
            due("its WINE stays", x.told(0, 3), 1000);
        });
        says(6, "(all are CELLARS)", () -> {
            LevelCellars x = withCellars(3);
            int[] odd = {MIN, -1, 6, MAX};
            for (int v : odd) {
                due("kind " + v, x.turns(0, v), BAD);
                due("cellar " + v, x.turns(v, 0), BAD);
            }
            due("cellar 1", x.turns(1, 0), BAD);
            due("a VAULT still", x.told(0, 0), 3);
            due("a VAULT may turn into what it is", x.turns(0, 3), 3);
        });
    }

    private static void edgesOfSet(LevelCellars x, int what, int least, int most) {
        int was = x.told(0, what);
        int[] odd = {MIN, least - 1, most + 1, MAX};
        for (int v : odd) {
            due("set(0, " + what + ", " + v + ")", x.set(0, what, v), BAD);
            due("it stays", x.told(0, what), was);
        }
        due("the least", x.set(0, what, least), was);
        due("it is the least", x.told(0, what), least);
        due("the most", x.set(0, what, most), least);
        due("it is the most", x.told(0, what), most);
    }

    private static void set() {
        says(7, "FLOOR 0 .. 99 (height)", () -> edgesOfSet(withCellars(0), 1, 0, 99));
        says(7, "LIP 1 .. 99 (how high wine can stand above its FLOOR)", () -> edgesOfSet(withCellars(0), 2, 1, 99));
        says(7, "WINE of SORT 0, 1, 2 (8 .. 10; 0 .. 999) of a CELLAR becomes v: what it was. BAD.", () -> {
            LevelCellars x = withCellars(0);
            edgesOfSet(x, 8, 0, 999);
            edgesOfSet(x, 9, 0, 999);
            edgesOfSet(x, 10, 0, 999);
            due("all together", x.told(0, 3), 2997);
        });
        says(7, "FLOOR, LIP (what 1, 2), WINE of SORT 0, 1, 2 (8 .. 10;", () -> {
            LevelCellars x = withCellars(0);
            int[] odd = {MIN, -1, 0, 3, 4, 5, 6, 7, 11, MAX};
            for (int what : odd) {
                due("what " + what, x.set(0, what, 1), BAD);
            }
            int[] none = {MIN, -1, 1, 8, MAX};
            for (int cellar : none) {
                due("cellar " + cellar, x.set(cellar, 1, 1), BAD);
            }
        });
        says(7, "999 at most where it is told by set(), pour()", () -> {
            // 9 * 99 / 2 = 445 run: 1444 then, HIGH 144; 1444 / 4 + 1 = 362 go over the lip.
            LevelCellars x = new LevelCellars();
            x.cellar(0, 99, 99);
            x.cellar(0, 0, 99);
            wine(x, 0, 999, 0, 0);
            wine(x, 1, 999, 0, 0);
            x.pipe(0, 1, 9);
            due("hours(1)", x.hours(1), 362);
            due("more than 999, by what ran", x.told(1, 8), 1082);
            due("set(1, 8, 1000)", x.set(1, 8, 1000), BAD);
            due("it stays", x.told(1, 8), 1082);
            due("set(1, 8, 999): what it was", x.set(1, 8, 999), 1082);
            due("it is less now", x.told(1, 8), 999);
        });
        says(7, "LEVEL: FLOOR and HIGH.", () -> {
            LevelCellars x = withCellars(0);
            text(x, "high f+l");
            x.set(0, 2, 50);
            due("HIGH by another LIP", x.told(0, 4), 50);
            x.set(0, 9, 7);
            due("HIGH by other WINE", x.told(0, 4), 57);
            x.set(0, 1, 99);
            due("LEVEL by another FLOOR", x.told(0, 5), 156);
        });
    }

    private static void pipe() {
        says(8, "PIPES, 12 at most, numbered from 0", () -> {
            LevelCellars x = withCellars(0, 0);
            for (int p = 0; p < 12; p++) {
                due("pipe " + p, x.pipe(p % 2, 1 - p % 2, 1), p);
            }
            due("a thirteenth", x.pipe(0, 1, 1), FULL);
            due("twelve still", x.count(1), 12);
            due("the last one still", x.pipeOf(11, 0), 1);
        });
        says(8, "ONE, OTHER (unlike CELLARS)", () -> {
            LevelCellars x = withCellars(0, 0);
            int[] none = {MIN, -1, 2, 8, MAX};
            for (int cellar : none) {
                due("one " + cellar, x.pipe(cellar, 0, 1), BAD);
                due("other " + cellar, x.pipe(0, cellar, 1), BAD);
                due("both " + cellar, x.pipe(cellar, cellar, 1), BAD);
            }
            due("none came", x.count(1), 0);
            due("the least ones", x.pipe(0, 1, 1), 0);
            due("the other way, too", x.pipe(1, 0, 1), 1);
        });
        says(8, "BAD: also of one with itself; FULL.", () -> {
            LevelCellars x = withCellars(0, 0);
            due("0 with itself", x.pipe(0, 0, 1), BAD);
            due("1 with itself", x.pipe(1, 1, 1), BAD);
            due("none came", x.count(1), 0);
            for (int p = 0; p < 12; p++) {
                x.pipe(0, 1, 1);
            }
            due("with itself, ahead of FULL", x.pipe(0, 0, 1), BAD);
            due("WIDE, ahead of FULL", x.pipe(0, 1, 10), BAD);
            due("one, ahead of FULL", x.pipe(2, 1, 1), BAD);
            due("other, ahead of FULL", x.pipe(0, 2, 1), BAD);
        });
        says(8, "WIDE 1 .. 9", () -> {
            LevelCellars x = withCellars(0, 0);
            int[] odd = {MIN, -1, 0, 10, MAX};
            for (int wide : odd) {
                due("wide " + wide, x.pipe(0, 1, wide), BAD);
            }
            due("1", x.pipe(0, 1, 1), 0);
            due("9", x.pipe(0, 1, 9), 1);
            due("it is 1", x.pipeOf(0, 2), 1);
            due("it is 9", x.pipeOf(1, 2), 9);
        });
        says(8, "CORKED or not (not at first)", () -> {
            LevelCellars x = withCellars(0, 0);
            x.keep();
            x.pipe(0, 1, 1);
            x.cork(0, 1);
            x.back();
            x.pipe(0, 1, 1);
            due("one more behind an image", x.pipeOf(0, 3), 0);
            due("none is CORKED", x.count(4), 0);
        });
    }

    private static void pipeOf() {
        says(9, "what 0 ONE, 1 OTHER, 2 WIDE, 3 CORKED (1, 0), 4 what RUNS now (0, if it is CORKED). BAD.", () -> {
            LevelCellars x = withCellars(0, 0, 0);
            x.pipe(2, 1, 4);
            wine(x, 1, 100, 0, 0);
            int[] want = {2, 1, 4, 0, 20};
            for (int what = 0; what < 5; what++) {
                due("what " + what, x.pipeOf(0, what), want[what]);
            }
            x.cork(0, 1);
            due("CORKED", x.pipeOf(0, 3), 1);
            due("what RUNS", x.pipeOf(0, 4), 0);
            int[] odd = {MIN, -1, 5, MAX};
            for (int what : odd) {
                due("what " + what, x.pipeOf(0, what), BAD);
            }
            int[] none = {MIN, -1, 1, 12, MAX};
            for (int pipe : none) {
                for (int what = 0; what < 5; what++) {
                    due("pipe " + pipe + ", what " + what, x.pipeOf(pipe, what), BAD);
                }
            }
        });
    }

    private static void runs() {
        says(9, "from the one of its two CELLARS with the higher LEVEL to the other (nothing, if they are alike)", () -> {
            LevelCellars x = withCellars(0, 0);
            x.pipe(0, 1, 9);
            wine(x, 0, 109, 0, 0);
            wine(x, 1, 0, 0, 100);
            due("LEVELS alike, FULL not", x.pipeOf(0, 4), 0);
            wine(x, 0, 110, 0, 0);
            due("1 above: 9 * 1 / 2", x.pipeOf(0, 4), 4);
            wine(x, 1, 0, 0, 120);
            due("1 below: 9 * 1 / 2", x.pipeOf(0, 4), 4);
            x.hours(1);
            due("it ran to 0", x.told(0, 3), 114);
        });
        says(9, "WIDE times by how much the LEVELS differ, / 2", () -> {
            LevelCellars x = withCellars(0, 0);
            x.pipe(0, 1, 1);
            x.pipe(0, 1, 3);
            wine(x, 0, 10, 0, 0);
            due("1 * 1 / 2", x.pipeOf(0, 4), 0);
            due("3 * 1 / 2", x.pipeOf(1, 4), 1);
            wine(x, 0, 30, 0, 0);
            due("1 * 3 / 2", x.pipeOf(0, 4), 1);
            due("3 * 3 / 2", x.pipeOf(1, 4), 4);
        });
        says(9, "but no more than FULL of the one from which", () -> {
            LevelCellars x = withCellars(0, 0);
            x.set(0, 1, 99);
            x.set(1, 1, 0);
            x.pipe(1, 0, 9);
            int[] full = {0, 1, 444, 445, 446};
            for (int f : full) {
                wine(x, 0, 0, 0, f);
                x.set(1, 1, 0);
                due("of " + f, x.pipeOf(0, 4), Math.min(f, 9 * (99 + f / 10) / 2));
            }
            text(x, "high 0");
            for (int f : full) {
                wine(x, 0, 0, 0, f);
                due("of " + f + ", 445 at most", x.pipeOf(0, 4), Math.min(f, 445));
            }
        });
        says(9, "and of that what the other TAKES IN", () -> {
            LevelCellars x = withCellars(0, 3, 5);
            x.set(0, 1, 99);
            x.pipe(0, 1, 9);
            x.pipe(0, 2, 9);
            int[] full = {0, 1, 2, 7};
            for (int f : full) {
                wine(x, 0, f, 0, 0);
                due("half of " + f + " into a VAULT", x.pipeOf(0, 4), f / 2);
                due("nothing into a SEALED one", x.pipeOf(1, 4), 0);
            }
            x.set(0, 1, 0);
            wine(x, 0, 0, 0, 0);
            wine(x, 1, 0, 3, 0);
            wine(x, 2, 0, 0, 3);
            due("all out of a VAULT", x.pipeOf(0, 4), 3);
            due("all out of a SEALED one", x.pipeOf(1, 4), 3);
        });
    }

    private static void cork() {
        says(10, "A PIPE is CORKED (v 1) or not (0): what it was. BAD.", () -> {
            LevelCellars x = withCellars(0, 0);
            x.pipe(0, 1, 2);
            due("not", x.cork(0, 0), 0);
            due("CORKED", x.cork(0, 1), 0);
            due("again", x.cork(0, 1), 1);
            due("it is", x.pipeOf(0, 3), 1);
            int[] odd = {MIN, -1, 2, MAX};
            for (int v : odd) {
                due("v " + v, x.cork(0, v), BAD);
                due("it is still", x.pipeOf(0, 3), 1);
            }
            int[] none = {MIN, -1, 1, 12, MAX};
            for (int pipe : none) {
                due("pipe " + pipe, x.cork(pipe, 0), BAD);
            }
            due("open again", x.cork(0, 0), 1);
            due("it is open", x.pipeOf(0, 3), 0);
        });
        says(10, "RUNS through a PIPE that is not CORKED", () -> {
            LevelCellars x = withCellars(0, 0);
            x.pipe(0, 1, 2);
            wine(x, 0, 100, 0, 0);
            x.cork(0, 1);
            x.hours(1);
            due("nothing ran", x.told(1, 3), 0);
            x.cork(0, 0);
            x.hours(1);
            due("2 * 10 / 2 ran", x.told(1, 3), 10);
        });
    }

    private static void thirst() {
        says(11, "THIRST is 0 .. 100 (0 at first).", () -> {
            LevelCellars x = new LevelCellars();
            int[] odd = {MIN, -1, 101, MAX};
            for (int v : odd) {
                due("thirst(" + v + ")", x.thirst(v), BAD);
                due("it stays", x.count(3), 0);
            }
            due("100", x.thirst(100), 0);
            due("it is 100", x.count(3), 100);
            due("0", x.thirst(0), 100);
            due("it is 0", x.count(3), 0);
        });
    }

    private static void deal() {
        says(12, "CELLARS are drawn, n (1 .. 8) of them", () -> {
            LevelCellars x = new LevelCellars();
            int[] odd = {MIN, -1, 0, 9, MAX};
            for (int n : odd) {
                due("deal(" + n + ")", x.deal(n), BAD);
                due("none came", x.count(0), 0);
                due("no draw", x.count(8), 1);
            }
            due("1", x.deal(1), 1);
            due("8", new LevelCellars().deal(8), 8);
        });
        says(12, "as many as there is room for (no draws for others): how many came. BAD.", () -> {
            LevelCellars x = withCellars(0, 0, 0, 0, 0);
            due("3 of 4", x.deal(4), 3);
            due("draws for 3", x.count(8), drawn(1, 12));
            due("none of 8", x.deal(8), 0);
            due("no draw", x.count(8), drawn(1, 12));
            due("eight", x.count(0), 8);
            due("BAD, though there is no room", x.deal(9), BAD);
            LevelCellars y = withCellars(0, 0, 0, 0, 0);
            due("just as many as there is room for", y.deal(3), 3);
            due("draws for 3", y.count(8), drawn(1, 12));
        });
        says(12, "KIND the rest of a draw by 6, FLOOR that of one more by 60, LIP 1 and that of one more by 60, WINE of SORT (how "
            + "many CELLARS there are, by 3, the rest) that of one more by 300.", () -> {
                int[] seeds = {1, 0, -1, MIN, MAX, 987654321};
                for (int seed : seeds) {
                    LevelCellars x = new LevelCellars();
                    x.seed(seed);
                    x.deal(8);
                    for (int c = 0; c < 8; c++) {
                        due("KIND", x.told(c, 0), (drawn(seed, 4 * c + 1) >>> 8) % 6);
                        due("FLOOR", x.told(c, 1), (drawn(seed, 4 * c + 2) >>> 8) % 60);
                        due("LIP", x.told(c, 2), 1 + (drawn(seed, 4 * c + 3) >>> 8) % 60);
                        for (int s = 0; s < 3; s++) {
                            int want = s == c % 3 ? (drawn(seed, 4 * c + 4) >>> 8) % 300 : 0;
                            due("WINE of SORT " + s, x.told(c, 8 + s), want);
                        }
                    }
                }
            });
        says(12, "LEVEL: FLOOR and HIGH.", () -> {
            LevelCellars x = new LevelCellars();
            text(x, "high f");
            x.deal(8);
            for (int c = 0; c < 8; c++) {
                int full = x.told(c, 3);
                int[] high = {full, full / 2, full > 0 ? full + 1 : 0, Math.max(0, full / 2 - 2), full > 0 ? full + 1 : 0, 0};
                due("LEVEL of what is drawn", x.told(c, 5), x.told(c, 1) + high[x.told(c, 0)]);
            }
        });
    }

    private static void seed() {
        says(13, "z becomes v: what it was.", () -> {
            LevelCellars x = new LevelCellars();
            int[] any = {MIN, MAX, -1, 0, BAD, NONE};
            int was = 1;
            for (int v : any) {
                due("seed(" + v + ")", x.seed(v), was);
                due("it is " + v, x.count(8), v);
                was = v;
            }
        });
        says(13, "A draw: z becomes z * 1103515245 + 12345 (an int); it gives z >>> 8.", () -> {
            // 2 * 1103515245 + 12345 is above all ints: -2087924461 is left, and 8621261 of it.
            LevelCellars x = new LevelCellars();
            x.seed(2);
            x.deal(1);
            due("KIND: 8621261 by 6", x.told(0, 0), 5);
            x = new LevelCellars();
            x.seed(2);
            x.hours(1);
            due("z wraps around", x.count(8), -2087924461);
        });
    }
}
