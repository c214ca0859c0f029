/** The sentences that name boundary cases of numbers that wait, of images and of counts: promises 40 to 44. */
public final class ImagesTest extends Sentences {
    public static void main(String[] args) {
        tell();
        checkBounds();
        checkNumbers();
        checkByTheImage();
        lastHours();
        keep();
        backBounds();
        backToAll();
        notKept();
        count();
        end(40, 44);
    }

    /** 100 drops in a LEAKY cellar: 95, 91, 87, 83, 79, 76 .. are left. */
    private static LevelCellars leaky() {
        LevelCellars x = withCellars(2);
        wine(x, 0, 100, 0, 0);
        return x;
    }

    private static void tellAll(LevelCellars x, int... numbers) {
        for (int v : numbers) {
            x.tell(v);
        }
    }

    private static void tell() {
        says(40, "One more number waits: how many. FULL: 60 wait.", () -> {
            LevelCellars x = new LevelCellars();
            for (int i = 1; i <= 60; i++) {
                due("tell " + i, x.tell(0), i);
            }
            due("60 wait", x.count(6), 60);
            due("a 61st", x.tell(0), FULL);
            due("60 still", x.count(6), 60);
            x.check(1);
            due("none wait", x.count(6), 0);
            due("the first again", x.tell(0), 1);
        });
        says(40, "One more number waits", () -> {
            int[] any = {MIN, -1, 0, BAD, NONE, MAX};
            LevelCellars x = new LevelCellars();
            for (int i = 0; i < any.length; i++) {
                due("tell(" + any[i] + ")", x.tell(any[i]), i + 1);
            }
        });
    }

    private static void checkBounds() {
        says(41, "of n (1 .. 30; fewer, if THE HOUR would be above 9999)", () -> {
            int[] odd = {MIN, -1, 0, 31, MAX};
            for (int n : odd) {
                LevelCellars x = leaky();
                x.keep();
                due("check(" + n + ")", x.check(n), BAD);
            }
            LevelCellars x = leaky();
            x.keep();
            tellAll(x, 95, 5);
            due("check(1)", x.check(1), 0);
            LevelCellars y = leaky();
            for (int i = 0; i < 30; i++) {
                y.hours(1);
                tellAll(x, y.town(0), y.town(1));
            }
            due("check(30)", x.check(30), 0);
        });
        says(41, "BAD; NO: there is no IMAGE.", () -> {
            LevelCellars x = leaky();
            tellAll(x, 95, 5);
            due("no IMAGE", x.check(1), NO);
            due("no IMAGE, 30", x.check(30), NO);
            due("BAD ahead of NO", x.check(0), BAD);
            due("BAD ahead of NO", x.check(31), BAD);
        });
        says(41, "(none do then, whatever is answered)", () -> {
            LevelCellars x = leaky();
            tellAll(x, 95, 5);
            due("NO", x.check(1), NO);
            due("none wait", x.count(6), 0);
            tellAll(x, 95, 5);
            due("BAD", x.check(0), BAD);
            due("none wait", x.count(6), 0);
            x.keep();
            tellAll(x, 95, 5);
            due("BAD with an IMAGE", x.check(31), BAD);
            due("none wait", x.count(6), 0);
            due("none is left of them", x.check(1), 1);
            tellAll(x, 95, 5);
            due("0", x.check(1), 0);
            due("none wait", x.count(6), 0);
            tellAll(x, 95, 5, 91);
            due("one too many", x.check(1), 3);
            due("none wait", x.count(6), 0);
            tellAll(x, 94, 5);
            due("not right", x.check(1), 1);
            due("none wait", x.count(6), 0);
        });
    }

    private static void checkNumbers() {
        says(41, "else 1 and how many stand right ahead of the first that is not", () -> {
            int[] right = {95, 5, 91, 9, 87, 13};
            for (int at = 0; at < 6; at++) {
                for (int by = -1; by <= 1; by += 2) {
                    LevelCellars x = leaky();
                    x.keep();
                    for (int i = 0; i < 6; i++) {
                        x.tell(i == at ? right[i] + by : right[i]);
                    }
                    due("the number " + at + " is not", x.check(3), 1 + at);
                }
            }
            LevelCellars x = leaky();
            x.keep();
            tellAll(x, 95, 5, 90, 9, 80, 13);
            due("the first of two", x.check(3), 3);
        });
        says(41, "(or is missing, or one too many)", () -> {
            int[] right = {95, 5, 91, 9, 87, 13, 83, 17};
            for (int told = 0; told <= 8; told++) {
                LevelCellars x = leaky();
                x.keep();
                for (int i = 0; i < told; i++) {
                    x.tell(right[i]);
                }
                due(told + " of 6", x.check(3), told < 6 ? 1 + told : told == 6 ? 0 : 7);
            }
            LevelCellars x = leaky();
            x.keep();
            tellAll(x, 95, 5, 91, 8, 1, 1, 1, 1);
            due("one is not, ahead of too many", x.check(3), 4);
            LevelCellars y = leaky();
            LevelCellars z = leaky();
            y.keep();
            for (int i = 0; i < 30; i++) {
                z.hours(1);
                tellAll(y, z.town(0), z.town(1));
            }
            due("60 for 29", y.check(29), 59);
        });
    }

    private static void checkByTheImage() {
        says(41, "THE HOURS TOLD: of n HOURS, one behind the other, by THE IMAGE: FULL of all, together; SPILT, behind each.", () -> {
            LevelCellars x = withCellars(2, 0);
            wine(x, 0, 100, 0, 0);
            wine(x, 1, 7, 0, 0);
            x.hours(1);
            x.keep();
            x.hours(9);
            x.cellar(0, 1, 1);
            x.set(2, 9, 500);
            tellAll(x, 98, 9, 94, 13);
            due("102 were left, and 5 SPILT, when it was kept", x.check(2), 0);
            due("as it is now", x.count(2), 10);
        });
        says(41, "AN IMAGE keeps all but SHEETS, SLOTS, numbers that wait, THE TAPE", () -> {
            nothingChanges("check(30), where no number waits", () -> {
                LevelCellars x = Towns.full();
                x.check(1);
                return x;
            }, x -> x.check(30), 1);
            LevelCellars x = withCellars(0);
            x.set(0, 2, 1);
            wine(x, 0, 100, 0, 0);
            x.thirst(100);
            x.keep();
            text(x, "high 0");
            x.thirst(0);
            x.seed(99);
            tellAll(x, 100 - 26 - 5, 26);
            due("the IMAGE's TEXTS and THIRST", x.check(1), 0);
        });
    }

    private static LevelCellars leakyAt(int hour) {
        LevelCellars x = withCellars(2);
        hoursUpTo(x, hour);
        wine(x, 0, 100, 0, 0);
        return x;
    }

    private static void lastHours() {
        says(41, "fewer, if THE HOUR would be above 9999", () -> {
            LevelCellars x = leakyAt(9997);
            x.keep();
            tellAll(x, 95, 5, 91, 9);
            due("two of three HOURS", x.check(3), 0);
            tellAll(x, 95, 5, 91, 9);
            due("two of 30 HOURS", x.check(30), 0);
            tellAll(x, 95, 5, 91, 9);
            due("two of two", x.check(2), 0);
            tellAll(x, 95, 5, 91, 9, 87, 13);
            due("a third is too many", x.check(3), 5);
            tellAll(x, 95, 5, 91);
            due("one is missing", x.check(3), 4);
            x.hours(2);
            tellAll(x, 95, 5, 91, 9);
            due("THE HOUR of the IMAGE, not that of now", x.check(3), 0);
            x.keep();
            due("no HOUR is left, no number waits", x.check(30), 0);
            tellAll(x, 91);
            due("no HOUR is left, one number is too many", x.check(1), 1);
        });
    }

    private static void keep() {
        says(42, "AN IMAGE is kept: how many CELLARS.", () -> {
            LevelCellars x = new LevelCellars();
            due("none", x.keep(), 0);
            for (int c = 1; c <= 8; c++) {
                x.cellar(0, c, 1);
                due("keep()", x.keep(), c);
            }
            nothingChanges("keep()", () -> {
                LevelCellars y = Towns.full();
                y.back();
                return y;
            }, y -> y.keep(), 8);
        });
        says(42, "all can become as it is (again and again)", () -> {
            LevelCellars x = withCellars(0);
            x.keep();
            x.set(0, 8, 5);
            x.keep();
            x.set(0, 8, 6);
            due("the newer one", x.back(), 1);
            due("5", x.told(0, 8), 5);
            x.set(0, 8, 7);
            x.back();
            due("again", x.told(0, 8), 5);
        });
    }

    private static void backBounds() {
        says(43, "All is as THE IMAGE: how many CELLARS. NO: there is none.", () -> {
            LevelCellars x = withCellars(0);
            due("there is none", x.back(), NO);
            due("one CELLAR still", x.count(0), 1);
            LevelCellars y = new LevelCellars();
            y.keep();
            y.deal(8);
            due("an empty one", y.back(), 0);
            due("no CELLARS", y.count(0), 0);
            due("told(0, 0)", y.told(0, 0), BAD);
            y.deal(8);
            y.keep();
            due("a full one", y.back(), 8);
            due("FULL again", y.cellar(0, 1, 1), FULL);
        });
        says(43, "all can become as it is (again and again)", () -> {
            LevelCellars x = leaky();
            x.keep();
            for (int i = 0; i < 5; i++) {
                due("5 of 100 each time", x.hours(1), 5);
                x.set(0, 9, 999);
                due("back()", x.back(), 1);
                due("THE HOUR", x.count(2), 0);
                due("FULL", x.told(0, 3), 100);
                due("SPILT", x.town(1), 0);
            }
        });
    }

    private static LevelCellars kept(LevelCellars x) {
        x.keep();
        return x;
    }

    private static LevelCellars changed(LevelCellars x) {
        x.keep();
        x.turns(0, 5);
        x.set(1, 1, 77);
        x.set(1, 2, 66);
        x.set(2, 8, 55);
        x.set(2, 9, 44);
        x.set(3, 10, 33);
        x.cellar(1, 2, 3);
        x.pipe(0, 3, 9);
        x.cork(0, 1 - x.pipeOf(0, 3));
        x.thirst(1);
        x.seed(4711);
        x.hours(3);
        int tape = x.count(7);
        if (tape == 0) {
            text(x, "high 3");
            text(x, "fee 4");
            text(x, "fine 5");
        }
        x.back();
        return x;
    }

    private static void backToAll() {
        says(43, "All is as THE IMAGE", () -> {
            alike("back()", () -> changed(Towns.some()), () -> kept(Towns.some()));
            alike("back()", () -> changed(Towns.full()), () -> kept(Towns.full()));
            alike("back()", () -> changed(withoutTape()), () -> kept(withoutTape()));
        });
        says(43, "TEXTS, 14 at most, numbered from 0", () -> {
            LevelCellars x = withCellars(0);
            text(x, "high 3");
            x.keep();
            for (int i = 1; i < 14; i++) {
                text(x, "high 4");
            }
            due("FULL", text(x, "high 5"), FULL);
            x.back();
            due("HIGH", x.told(0, 4), 3);
            due("one TEXT", x.count(5), 1);
            for (int i = 1; i < 14; i++) {
                due("TEXT " + i, text(x, "high 6"), i);
            }
            due("HIGH", x.told(0, 4), 6);
            x.back();
            due("HIGH", x.told(0, 4), 3);
            due("TEXT 0", x.why(0), 0);
        });
    }

    private static LevelCellars withoutTape() {
        LevelCellars x = Towns.some();
        x.trim(0);
        return x;
    }

    private static void notKept() {
        says(43, "AN IMAGE keeps all but SHEETS, SLOTS, numbers that wait, THE TAPE", () -> {
            LevelCellars x = withCellars(0);
            sheet(x, 0, 0, 1, 2);
            x.lay(0, 3, 5);
            x.tell(1);
            feed(x, "fee 1");
            x.keep();
            x.mark(0, 0, 9);
            x.sheet(1, 1, 3);
            x.lay(0, 3, 6);
            x.lay(1, 2, 0);
            x.tell(2);
            feed(x, "+2");
            x.back();
            due("numbers wait", x.count(6), 2);
            due("THE TAPE", x.count(7), 7);
            due("a SLOT", x.rest(0, 100), 6);
            due("another one", x.item(1, 0), 9);
            x.lay(2, 2, 0);
            due("a SHEET", x.item(2, 0), 9);
            due("another one", x.mark(1, 2, 4), 1);
            due("text()", x.text(), 0);
            due("fee()", x.fee(), 3);
        });
    }

    private static void count() {
        says(44, "7 bytes of THE TAPE, 8 z. BAD.", () -> {
            LevelCellars x = new LevelCellars();
            int[] odd = {MIN, -1, 9, MAX};
            for (int what : odd) {
                due("count(" + what + ")", x.count(what), BAD);
            }
            int[] first = {0, 0, 0, 0, 0, 0, 0, 0, 1};
            for (int what = 0; what < 9; what++) {
                due("at first, count(" + what + ")", x.count(what), first[what]);
            }
        });
        says(44, "0 how many CELLARS, 1 PIPES, 2 THE HOUR, 3 THIRST, 4 how many PIPES are CORKED, 5 TEXTS, 6 numbers that wait", () -> {
            LevelCellars x = Towns.full();
            for (int p = 0; p < 12; p++) {
                x.cork(p, 1);
            }
            x.seed(MIN);
            int[] most = {8, 12, 5, 100, 12, 14, 60, 96, MIN};
            for (int what = 0; what < 9; what++) {
                due("where all is full, count(" + what + ")", x.count(what), most[what]);
            }
            LevelCellars y = new LevelCellars();
            hoursUpTo(y, 9999);
            due("the last HOUR", y.count(2), 9999);
        });
    }
}
