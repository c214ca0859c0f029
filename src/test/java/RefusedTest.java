import java.util.function.Supplier;
import java.util.function.ToIntFunction;

/**
 * "A call that is refused answers one of BAD, NO, FULL, or a FINDING .. and changes nothing": each way in which the
 * document lets a call be refused, on an object that has something of everything; then all is as it was.
 */
public final class RefusedTest extends Sentences {
    private static final Supplier<LevelCellars> SOME = Towns::some;
    private static final Supplier<LevelCellars> ALL_FULL = Towns::full;
    private static final Supplier<LevelCellars> NEW = LevelCellars::new;

    /** A call, and how it is told where it does not hold. */
    private record Call(String told, ToIntFunction<LevelCellars> made) {
    }

    private static Call call(String told, ToIntFunction<LevelCellars> made) {
        return new Call(told, made);
    }

    private static void refused(int promise, String sentence, Supplier<LevelCellars> maker, int want, Call... calls) {
        says(promise, sentence, () -> {
            for (Call c : calls) {
                nothingChanges(c.told, maker, c.made, want);
            }
        });
    }

    public static void main(String[] args) {
        cellars();
        settings();
        pipes();
        hours();
        thoughts();
        texts();
        textOfTheTape();
        sheets();
        marks();
        copies();
        slots();
        numbersAndImages();
        onlyTold();
        // seed() and keep() are never refused.
        end(2, 44, 13, 42);
    }

    private static void cellars() {
        refused(2, "One more CELLAR: its number. BAD; FULL.", SOME, BAD,
            call("cellar(6, 0, 1)", x -> x.cellar(6, 0, 1)), call("cellar(-1, 0, 1)", x -> x.cellar(-1, 0, 1)),
            call("cellar(0, 100, 1)", x -> x.cellar(0, 100, 1)), call("cellar(0, -1, 1)", x -> x.cellar(0, -1, 1)),
            call("cellar(0, 0, 0)", x -> x.cellar(0, 0, 0)), call("cellar(0, 0, 100)", x -> x.cellar(0, 0, 100)));
        refused(2, "CELLARS, 8 at most, numbered from 0", ALL_FULL, FULL, call("cellar(0, 5, 5)", x -> x.cellar(0, 5, 5)));
        refused(3, "8, 9, 10: WINE of SORT 0, 1, 2. BAD.", SOME, BAD,
            call("told(0, 11)", x -> x.told(0, 11)), call("told(5, 0)", x -> x.told(5, 0)), call("told(-1, 0)", x -> x.told(-1, 0)));
        refused(4, "What a CELLAR TAKES IN of n (0 .. 9999) drops. BAD.", SOME, BAD,
            call("takes(0, -1)", x -> x.takes(0, -1)), call("takes(0, 10000)", x -> x.takes(0, 10000)),
            call("takes(5, 1)", x -> x.takes(5, 1)));
        refused(5, "BAD: cellar, kind;", SOME, BAD,
            call("as(5, 0)", x -> x.as(5, 0)), call("as(0, 6)", x -> x.as(0, 6)));
        refused(5, "KIND: it is not of that KIND, nor of one under it.", SOME, KIND, call("as(0, 1)", x -> x.as(0, 1)));
        refused(6, "A CELLAR is of another KIND from now on: what it was. BAD.", SOME, BAD,
            call("turns(0, 6)", x -> x.turns(0, 6)), call("turns(0, -1)", x -> x.turns(0, -1)),
            call("turns(5, 0)", x -> x.turns(5, 0)), call("turns(-1, 0)", x -> x.turns(-1, 0)));
    }

    private static void settings() {
        refused(7, "of a CELLAR becomes v: what it was. BAD.", SOME, BAD,
            call("set(0, 1, 100)", x -> x.set(0, 1, 100)), call("set(0, 1, -1)", x -> x.set(0, 1, -1)),
            call("set(0, 2, 100)", x -> x.set(0, 2, 100)), call("set(0, 2, 0)", x -> x.set(0, 2, 0)),
            call("set(0, 8, 1000)", x -> x.set(0, 8, 1000)), call("set(0, 8, -1)", x -> x.set(0, 8, -1)),
            call("set(0, 9, 1000)", x -> x.set(0, 9, 1000)), call("set(0, 10, -1)", x -> x.set(0, 10, -1)),
            call("set(5, 8, 1)", x -> x.set(5, 8, 1)), call("set(-1, 8, 1)", x -> x.set(-1, 8, 1)),
            call("set(0, 0, 1)", x -> x.set(0, 0, 1)), call("set(0, 3, 1)", x -> x.set(0, 3, 1)),
            call("set(0, 7, 1)", x -> x.set(0, 7, 1)), call("set(0, 11, 1)", x -> x.set(0, 11, 1)));
        refused(11, "THIRST becomes v: what it was. BAD.", SOME, BAD,
            call("thirst(-1)", x -> x.thirst(-1)), call("thirst(101)", x -> x.thirst(101)));
        refused(12, "how many came. BAD.", SOME, BAD,
            call("deal(0)", x -> x.deal(0)), call("deal(9)", x -> x.deal(9)));
        refused(12, "as many as there is room for (no draws for others)", ALL_FULL, 0, call("deal(8)", x -> x.deal(8)));
    }

    private static void pipes() {
        refused(8, "BAD: also of one with itself; FULL.", SOME, BAD,
            call("pipe(1, 1, 1)", x -> x.pipe(1, 1, 1)), call("pipe(5, 1, 1)", x -> x.pipe(5, 1, 1)),
            call("pipe(1, 5, 1)", x -> x.pipe(1, 5, 1)), call("pipe(-1, 1, 1)", x -> x.pipe(-1, 1, 1)),
            call("pipe(0, 1, 0)", x -> x.pipe(0, 1, 0)), call("pipe(0, 1, 10)", x -> x.pipe(0, 1, 10)));
        refused(8, "PIPES, 12 at most, numbered from 0", ALL_FULL, FULL, call("pipe(0, 1, 1)", x -> x.pipe(0, 1, 1)));
        refused(9, "4 what RUNS now (0, if it is CORKED). BAD.", SOME, BAD,
            call("pipeOf(4, 0)", x -> x.pipeOf(4, 0)), call("pipeOf(-1, 0)", x -> x.pipeOf(-1, 0)),
            call("pipeOf(0, 5)", x -> x.pipeOf(0, 5)));
        refused(10, "A PIPE is CORKED (v 1) or not (0): what it was. BAD.", SOME, BAD,
            call("cork(0, 2)", x -> x.cork(0, 2)), call("cork(0, -1)", x -> x.cork(0, -1)),
            call("cork(4, 1)", x -> x.cork(4, 1)), call("cork(-1, 1)", x -> x.cork(-1, 1)));
    }

    private static void hours() {
        refused(14, "what was SPILT in them. BAD.", SOME, BAD,
            call("hours(0)", x -> x.hours(0)), call("hours(101)", x -> x.hours(101)), call("hours(-1)", x -> x.hours(-1)));
        refused(14, "HOURS (no more than up to 9999)", () -> {
            LevelCellars x = new LevelCellars();
            hoursUpTo(x, 9999);
            x.deal(8);
            x.thirst(100);
            return x;
        }, 0, call("hours(100)", x -> x.hours(100)));
        refused(15, "3 CELLARS with any WINE, as a set. BAD.", SOME, BAD,
            call("town(4)", x -> x.town(4)), call("town(-1)", x -> x.town(-1)));
    }

    private static void thoughts() {
        refused(16, "2 and k: FULL of CELLAR k. BAD.", SOME, BAD,
            call("behind(101, 0)", x -> x.behind(101, 0)), call("behind(-1, 0)", x -> x.behind(-1, 0)),
            call("behind(1, 7)", x -> x.behind(1, 7)), call("behind(1, -1)", x -> x.behind(1, -1)));
        refused(17, "TASTE of a SORT in a CELLAR behind n (0 .. 100). BAD.", SOME, BAD,
            call("taste(5, 0, 1)", x -> x.taste(5, 0, 1)), call("taste(0, 3, 1)", x -> x.taste(0, 3, 1)),
            call("taste(0, 0, 101)", x -> x.taste(0, 0, 101)));
        refused(18, "REST. NONE: not by then.", () -> {
            LevelCellars x = withCellars(0, 0);
            x.pipe(0, 1, 1);
            x.set(1, 1, 8);
            text(x, "high 0");
            x.set(0, 8, 301);
            return x;
        }, NONE, call("rests()", x -> x.rests()));
        refused(19, "BAD; NONE: all are CORKED.", SOME, BAD,
            call("corks(5, 1, 0)", x -> x.corks(5, 1, 0)), call("corks(0, 0, 0)", x -> x.corks(0, 0, 0)),
            call("corks(0, 61, 0)", x -> x.corks(0, 61, 0)), call("corks(0, 1, 2)", x -> x.corks(0, 1, 2)));
        refused(19, "NONE: all are CORKED.", () -> {
            LevelCellars x = Towns.some();
            for (int p = 0; p < 4; p++) {
                x.cork(p, 1);
            }
            return x;
        }, NONE, call("corks(0, 60, 0)", x -> x.corks(0, 60, 0)), call("corks(0, 60, 1)", x -> x.corks(0, 60, 1)));
        refused(20, "BAD; NONE: no two are without a PIPE.", SOME, BAD,
            call("dig(0, 0)", x -> x.dig(0, 0)), call("dig(41, 0)", x -> x.dig(41, 0)), call("dig(1, 2)", x -> x.dig(1, 2)));
        refused(20, "NONE: no two are without a PIPE.", () -> {
            LevelCellars x = withCellars(0, 0);
            x.pipe(1, 0, 1);
            return x;
        }, NONE, call("dig(40, 0)", x -> x.dig(40, 0)), call("dig(40, 1)", x -> x.dig(40, 1)));
        refused(21, "BAD; NONE: there are no CELLARS.", SOME, BAD,
            call("loser(0, 0)", x -> x.loser(0, 0)), call("loser(61, 0)", x -> x.loser(61, 0)), call("loser(1, 2)", x -> x.loser(1, 2)));
        refused(21, "NONE: there are no CELLARS.", NEW, NONE, call("loser(60, 0)", x -> x.loser(60, 0)));
        refused(22, "TAP of a CELLAR, for n (1 .. 60). BAD.", SOME, BAD,
            call("tap(5, 1)", x -> x.tap(5, 1)), call("tap(0, 0)", x -> x.tap(0, 0)), call("tap(0, 61)", x -> x.tap(0, 61)));
        refused(23, "1 the differences, together. BAD; NOTHING.", SOME, BAD,
            call("dug(4, 0, 0)", x -> x.dug(4, 0, 0)), call("dug(0, 5, 0)", x -> x.dug(0, 5, 0)), call("dug(0, 0, 2)", x -> x.dug(0, 0, 2)));
        refused(23, "NOTHING: a SHEET is MISSING", SOME, NOTHING, call("dug(2, 0, 0)", x -> x.dug(2, 0, 0)));
        refused(25, "What fine gives for a CELLAR. BAD.", SOME, BAD,
            call("fine(5)", x -> x.fine(5)), call("fine(-1)", x -> x.fine(-1)));
    }

    private static void texts() {
        refused(26, "FULL: it would have more than 96.", ALL_FULL, FULL, call("feed(-1, -1, -1)", x -> x.feed(-1, -1, -1)));
        refused(26, "THE TAPE (96 bytes at most", () -> {
            LevelCellars x = new LevelCellars();
            feed(x, "fee 1" + "+1".repeat(40));
            return x;
        }, FULL, call("feed(-1, -1, -1) where there are 85", x -> x.feed(-1, -1, -1)));
        refused(27, "THE TAPE keeps its first n bytes: n. BAD.", SOME, BAD,
            call("trim(-1)", x -> x.trim(-1)), call("trim(11)", x -> x.trim(11)), call("trim(97)", x -> x.trim(97)));
        refused(29, "1 how many NUMBERS and NAMES it has. BAD.", SOME, BAD,
            call("textTold(2, 0)", x -> x.textTold(2, 0)), call("textTold(-1, 0)", x -> x.textTold(-1, 0)),
            call("textTold(0, 2)", x -> x.textTold(0, 2)));
        refused(30, "The TEXT that counts for a KEY. BAD; NONE.", SOME, BAD,
            call("why(3)", x -> x.why(3)), call("why(-1)", x -> x.why(-1)));
        refused(30, "NONE: there is none.", SOME, NONE, call("why(2)", x -> x.why(2)));
    }

    private static Supplier<LevelCellars> withTape(Supplier<LevelCellars> maker, String tape) {
        return () -> {
            LevelCellars x = maker.get();
            x.trim(0);
            feed(x, tape);
            return x;
        };
    }

    private static Supplier<LevelCellars> behindText(Supplier<LevelCellars> maker) {
        return () -> {
            LevelCellars x = maker.get();
            x.text();
            return x;
        };
    }

    private static void textOfTheTape() {
        says(28, "and changes nothing (but the tape and the numbers that wait, where told)", () -> {
            String[] faulty = {"", "high", "high f+", "fee s)", "fine 12345", "high (((((((((f)))))))))", "fine w 1"};
            int[] fault = {0, 4, 7, 5, 5, 13, 7};
            for (int i = 0; i < faulty.length; i++) {
                Supplier<LevelCellars> maker = withTape(SOME, faulty[i]);
                due("\"" + faulty[i] + "\"", maker.get().text(), -100 - fault[i]);
                alike("\"" + faulty[i] + "\"", behindText(maker), withTape(SOME, ""));
            }
        });
        says(28, "-100 less the place of its FAULT; FULL.", () -> {
            String[] right = {"high 1", "fee 1", "fine 1"};
            for (String tape : right) {
                Supplier<LevelCellars> maker = withTape(ALL_FULL, tape);
                due(tape, maker.get().text(), FULL);
                alike(tape, behindText(maker), withTape(ALL_FULL, ""));
            }
        });
    }

    private static void sheets() {
        refused(31, "BAD: sheet, sort, n above 24; SIZE.", SOME, BAD,
            call("sheet(4, 0, 1)", x -> x.sheet(4, 0, 1)), call("sheet(-1, 0, 1)", x -> x.sheet(-1, 0, 1)),
            call("sheet(0, 2, 1)", x -> x.sheet(0, 2, 1)), call("sheet(0, -2, 1)", x -> x.sheet(0, -2, 1)),
            call("sheet(0, 0, 25)", x -> x.sheet(0, 0, 25)), call("sheet(2, 1, 25)", x -> x.sheet(2, 1, 25)));
        refused(31, "SIZE: a number of places is below 0", SOME, SIZE,
            call("sheet(0, 1, -1)", x -> x.sheet(0, 1, -1)), call("sheet(2, 0, -1)", x -> x.sheet(2, 0, -1)));
        refused(33, "how many are otherwise then. BAD; NOTHING.", SOME, BAD,
            call("pour(4)", x -> x.pour(4)), call("pour(-1)", x -> x.pour(-1)));
        refused(33, "NOTHING: a SHEET is MISSING", SOME, NOTHING, call("pour(2)", x -> x.pour(2)));
        refused(33, "beyond the SHEET: it stays", SOME, 0, call("pour(3)", x -> x.pour(3)));
        refused(34, "BAD; NOTHING; NONE: there is none.", SOME, BAD,
            call("reads(4)", x -> x.reads(4)), call("reads(-1)", x -> x.reads(-1)));
        refused(34, "NOTHING: a SHEET is MISSING", SOME, NOTHING, call("reads(2)", x -> x.reads(2)));
        refused(34, "NONE: there is none.", SOME, NONE, call("reads(3)", x -> x.reads(3)));
    }

    private static void marks() {
        refused(32, "BAD: sheet; NOTHING; INDEX;", SOME, BAD,
            call("mark(4, 0, 1)", x -> x.mark(4, 0, 1)), call("mark(-1, 0, 1)", x -> x.mark(-1, 0, 1)));
        refused(32, "NOTHING: a SHEET is MISSING", SOME, NOTHING, call("mark(2, 0, 1)", x -> x.mark(2, 0, 1)));
        refused(32, "INDEX: there is no such place", SOME, INDEX,
            call("mark(0, 6, 1)", x -> x.mark(0, 6, 1)), call("mark(0, -1, 1)", x -> x.mark(0, -1, 1)),
            call("mark(3, 0, 1)", x -> x.mark(3, 0, 1)));
        refused(32, "KIND: NONE in a row of shorts;", SOME, KIND, call("mark(0, 0, NONE)", x -> x.mark(0, 0, NONE)));
        refused(32, "BAD: v of floats.", SOME, BAD,
            call("mark(1, 0, 100000)", x -> x.mark(1, 0, 100000)), call("mark(1, 1, -100000)", x -> x.mark(1, 1, -100000)));
    }

    private static void copies() {
        refused(35, "BAD; NOTHING; KIND: they are not of one sort; INDEX.", SOME, BAD,
            call("copy(4, 0, 0, 0, 1)", x -> x.copy(4, 0, 0, 0, 1)), call("copy(0, 0, -1, 0, 1)", x -> x.copy(0, 0, -1, 0, 1)));
        refused(35, "NOTHING: a SHEET is MISSING", SOME, NOTHING,
            call("copy(2, 0, 0, 0, 1)", x -> x.copy(2, 0, 0, 0, 1)), call("copy(0, 0, 2, 0, 1)", x -> x.copy(0, 0, 2, 0, 1)));
        refused(35, "KIND: they are not of one sort;", SOME, KIND,
            call("copy(0, 0, 1, 0, 1)", x -> x.copy(0, 0, 1, 0, 1)), call("copy(1, 0, 0, 0, 1)", x -> x.copy(1, 0, 0, 0, 1)));
        refused(35, "INDEX: there is no such place", SOME, INDEX,
            call("copy(0, 0, 0, 1, 6)", x -> x.copy(0, 0, 0, 1, 6)), call("copy(0, 1, 0, 0, 6)", x -> x.copy(0, 1, 0, 0, 6)),
            call("copy(0, -1, 0, 0, 2)", x -> x.copy(0, -1, 0, 0, 2)), call("copy(0, 0, 0, -1, 2)", x -> x.copy(0, 0, 0, -1, 2)),
            call("copy(0, 0, 0, 1, -1)", x -> x.copy(0, 0, 0, 1, -1)), call("copy(0, 0, 3, 0, 1)", x -> x.copy(0, 0, 3, 0, 1)));
    }

    private static void slots() {
        refused(36, "BAD: slot, thing, k;", SOME, BAD,
            call("lay(5, 3, 1)", x -> x.lay(5, 3, 1)), call("lay(-1, 3, 1)", x -> x.lay(-1, 3, 1)),
            call("lay(0, 4, 1)", x -> x.lay(0, 4, 1)), call("lay(0, -1, 1)", x -> x.lay(0, -1, 1)),
            call("lay(2, 1, 5)", x -> x.lay(2, 1, 5)), call("lay(2, 1, -1)", x -> x.lay(2, 1, -1)),
            call("lay(2, 2, 4)", x -> x.lay(2, 2, 4)), call("lay(2, 2, -1)", x -> x.lay(2, 2, -1)));
        refused(36, "NOTHING: that SHEET is MISSING.", SOME, NOTHING,
            call("lay(0, 2, 2)", x -> x.lay(0, 2, 2)), call("lay(1, 2, 2)", x -> x.lay(1, 2, 2)), call("lay(4, 2, 2)", x -> x.lay(4, 2, 2)));
        refused(37, "BAD; NOTHING; KIND: it is no CELLAR", SOME, BAD,
            call("ask(5, 0)", x -> x.ask(5, 0)), call("ask(0, 6)", x -> x.ask(0, 6)));
        refused(37, "a SLOT holds nothing", SOME, NOTHING, call("ask(4, 0)", x -> x.ask(4, 0)));
        refused(37, "KIND: it is no CELLAR, or not of that KIND, nor of one under it.", SOME, KIND,
            call("ask(1, 0)", x -> x.ask(1, 0)), call("ask(2, 0)", x -> x.ask(2, 0)), call("ask(0, 5)", x -> x.ask(0, 5)));
        refused(38, "BAD: slot; NOTHING;", SOME, BAD, call("item(5, 0)", x -> x.item(5, 0)), call("item(-1, 0)", x -> x.item(-1, 0)));
        refused(38, "a SLOT holds nothing", SOME, NOTHING, call("item(4, 0)", x -> x.item(4, 0)));
        refused(38, "KIND: it is no SHEET; INDEX; KIND: NO NUMBER.", SOME, KIND,
            call("item(0, 0)", x -> x.item(0, 0)), call("item(2, 0)", x -> x.item(2, 0)), call("item(1, 1)", x -> x.item(1, 1)));
        refused(38, "INDEX: there is no such place", SOME, INDEX,
            call("item(1, 4)", x -> x.item(1, 4)), call("item(1, -1)", x -> x.item(1, -1)));
        refused(39, "BAD: slot; NOTHING; KIND: it is no number;", SOME, BAD,
            call("rest(5, 1)", x -> x.rest(5, 1)), call("rest(-1, 1)", x -> x.rest(-1, 1)));
        refused(39, "a SLOT holds nothing", SOME, NOTHING, call("rest(4, 1)", x -> x.rest(4, 1)));
        refused(39, "KIND: it is no number;", SOME, KIND, call("rest(0, 1)", x -> x.rest(0, 1)), call("rest(1, 1)", x -> x.rest(1, 1)));
        refused(39, "NO: n is 0.", SOME, NO, call("rest(2, 0)", x -> x.rest(2, 0)));
    }

    private static void numbersAndImages() {
        refused(40, "One more number waits: how many. FULL: 60 wait.", ALL_FULL, FULL, call("tell(7)", x -> x.tell(7)));
        says(41, "and changes nothing (but the tape and the numbers that wait, where told)", () -> {
            int[] odd = {-1, 0, 31};
            for (int n : odd) {
                due("check(" + n + ")", SOME.get().check(n), BAD);
                alike("check(" + n + ")", () -> {
                    LevelCellars x = SOME.get();
                    x.check(n);
                    return x;
                }, Towns::someWhereNoNumberWaits);
            }
        });
        says(41, "BAD; NO: there is no IMAGE.", () -> alike("check(1)", () -> {
            LevelCellars x = withCellars(0, 2);
            x.tell(4);
            x.tell(5);
            due("check(1)", x.check(1), NO);
            return x;
        }, () -> withCellars(0, 2)));
        refused(43, "NO: there is none.", () -> {
            LevelCellars x = withCellars(0, 1, 2);
            wine(x, 2, 7, 8, 9);
            x.tell(5);
            feed(x, "fee 7");
            return x;
        }, NO, call("back()", x -> x.back()));
        refused(44, "7 bytes of THE TAPE, 8 z. BAD.", SOME, BAD, call("count(9)", x -> x.count(9)), call("count(-1)", x -> x.count(-1)));
    }

    /** What only tells leaves all as it is, though it is not refused. */
    private static void onlyTold() {
        says(24, "What fee gives.", () -> {
            int fee = SOME.get().fee();
            nothingChanges("fee()", SOME, x -> x.fee(), fee);
        });
        says(25, "What fine gives for a CELLAR.", () -> {
            int fine = SOME.get().fine(4);
            nothingChanges("fine(4)", SOME, x -> x.fine(4), fine);
        });
        says(4, "What a CELLAR TAKES IN of n (0 .. 9999) drops.", () -> nothingChanges("takes(4, 7)", SOME, x -> x.takes(4, 7), 0));
        says(39, "The rest of the number in a SLOT by n.", () -> nothingChanges("rest(2, 10)", SOME, x -> x.rest(2, 10), -7));
        says(38, "A place of the SHEET in a SLOT.", () -> nothingChanges("item(1, 0)", SOME, x -> x.item(1, 0), 21));
        says(37, "WORTH of the CELLAR in a SLOT", () -> nothingChanges("ask(0, 1)", SOME, x -> x.ask(0, 1), 26));
    }
}
