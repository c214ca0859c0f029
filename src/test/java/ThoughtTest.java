import java.util.List;
import java.util.function.ToIntFunction;

/** The sentences that name boundary cases of what will be: promises 16 to 25. */
public final class ThoughtTest extends Sentences {
    private static final List<ToIntFunction<LevelCellars>> THOUGHTS = List.of(x -> x.behind(100, 1), x -> x.taste(0, 1, 100),
        x -> x.rests(), x -> x.corks(0, 60, 1), x -> x.dig(40, 1), x -> x.loser(60, 1), x -> x.tap(0, 60), x -> x.dug(0, 0, 1));

    public static void main(String[] args) {
        onlyThought();
        zAsItIs();
        thoughtsAreGone();
        behind();
        taste();
        rests();
        corks();
        dig();
        loser();
        tap();
        dugBounds();
        dugDifferences();
        fee();
        fine();
        end(16, 25);
    }

    private static LevelCellars hillFrom(LevelCellars x) {
        x.cellar(0, 20, 30);
        x.cellar(1, 10, 20);
        x.cellar(2, 40, 25);
        x.cellar(3, 5, 60);
        wine(x, 0, 200, 50, 0);
        wine(x, 1, 100, 0, 0);
        wine(x, 2, 0, 0, 300);
        wine(x, 3, 0, 77, 0);
        x.pipe(0, 1, 3);
        x.pipe(2, 0, 2);
        x.pipe(2, 3, 5);
        x.thirst(50);
        x.seed(9);
        sheet(x, 0, 1, 40, 45, 60, NONE, 40);
        return x;
    }

    private static LevelCellars hill() {
        return hillFrom(new LevelCellars());
    }

    private static LevelCellars hillAtTheLastHour() {
        LevelCellars x = new LevelCellars();
        hoursUpTo(x, 9999);
        return hillFrom(x);
    }

    private static void thinks(int promise, String call, ToIntFunction<LevelCellars> thought) {
        says(promise, "(All this is only thought, from now on, z as it is, without the bound of THE HOUR: nothing changes.)", () -> {
            int some = thought.applyAsInt(Towns.some());
            nothingChanges(call, Towns::some, thought, some);
            int full = thought.applyAsInt(Towns.full());
            nothingChanges(call, Towns::full, thought, full);
            due(call + " at hour 9999", thought.applyAsInt(hillAtTheLastHour()), thought.applyAsInt(hill()));
            due("hour 9999 still", hillAtTheLastHour().count(2), 9999);
            LevelCellars x = hill();
            due(call + " once more", thought.applyAsInt(x), thought.applyAsInt(x));
        });
    }

    private static void onlyThought() {
        String[] told = {"behind(100, 1)", "taste(0, 1, 100)", "rests()", "corks(0, 60, 1)", "dig(40, 1)", "loser(60, 1)",
            "tap(0, 60)", "dug(0, 0, 1)"};
        for (int i = 0; i < told.length; i++) {
            thinks(16 + i, told[i], THOUGHTS.get(i));
        }
    }

    private static LevelCellars hillOf(int z) {
        LevelCellars x = hill();
        x.seed(z);
        return x;
    }

    private static void zAsItIs() {
        for (int promise = 16; promise <= 23; promise++) {
            int p = promise;
            says(promise, "z as it is", () -> {
                for (int z = 1; z <= 12; z++) {
                    asItComes(p, z);
                }
            });
        }
    }

    private static void asItComes(int promise, int z) {
        LevelCellars x = hillOf(z);
        LevelCellars behind = hillOf(z);
        behind.hours(9);
        switch (promise) {
            case 16: due("behind(9, 0)", x.behind(9, 0), behind.town(0)); break;
            case 17: due("taste(0, 1, 9)", x.taste(0, 1, 9), behind.told(0, 9)); break;
            case 18: due("rests()", x.rests(), firstAtRest(z)); break;
            case 19: due("corks(3, 9, 1)", x.corks(3, 9, 1), mostWithACork(z)); break;
            case 20: due("dig(2, 1)", leakyAndSealed(z).dig(2, 1), spiltInTwoHours(z)); break;
            case 21: due("loser(9, 1)", x.loser(9, 1), mostLost(hillOf(z), behind)); break;
            case 22: due("tap(2, 9)", x.tap(2, 9), given(z, behind)); break;
            default: due("dug(0, 0, 1)", x.dug(0, 0, 1), leastDifference(z)); break;
        }
    }

    private static int firstAtRest(int z) {
        LevelCellars x = hillOf(z);
        int hours = 0;
        while (x.town(2) > 0 && hours < 200) {
            x.hours(1);
            hours++;
        }
        return hours;
    }

    private static int mostWithACork(int z) {
        int most = MIN;
        for (int p = 0; p < 3; p++) {
            LevelCellars x = hillOf(z);
            x.cork(p, 1);
            x.hours(9);
            most = Math.max(most, x.told(3, 3));
        }
        return most;
    }

    /** 105 drops less 5, and less 5 more if they are drunk: then 4 are lost, else 5. */
    private static LevelCellars leakyAndSealed(int z) {
        LevelCellars x = withCellars(2, 5);
        wine(x, 0, 105, 0, 0);
        x.thirst(100);
        x.seed(z);
        return x;
    }

    private static int spiltInTwoHours(int z) {
        return (drawn(z, 2) >>> 8) % 2 == 0 ? 5 + 4 : 5 + 5;
    }

    private static int mostLost(LevelCellars now, LevelCellars behind) {
        int most = MIN;
        for (int c = 0; c < 4; c++) {
            most = Math.max(most, now.told(c, 3) - behind.told(c, 3));
        }
        return most;
    }

    private static int given(int z, LevelCellars behind) {
        LevelCellars emptied = hillOf(z);
        wine(emptied, 2, 0, 0, 0);
        emptied.hours(9);
        return behind.town(0) - behind.told(2, 3) - (emptied.town(0) - emptied.told(2, 3));
    }

    private static int leastDifference(int z) {
        int least = MAX;
        for (int p = -1; p < 3; p++) {
            LevelCellars x = hillOf(z);
            if (p >= 0) {
                x.cork(p, 1);
            }
            int[] levels = {40, 45, 60, NONE, 40};
            int sum = 0;
            for (int level : levels) {
                sum += level == NONE ? 0 : Math.abs(level - x.told(0, 5));
                x.hours(1);
            }
            least = Math.min(least, sum);
        }
        return least;
    }

    /** What one call thought of is nothing to the next one: not even dig()'s thirteenth pipe. */
    private static void thoughtsAreGone() {
        says(20, "nothing changes", () -> {
            for (ToIntFunction<LevelCellars> one : THOUGHTS) {
                for (ToIntFunction<LevelCellars> other : THOUGHTS) {
                    LevelCellars x = Towns.full();
                    one.applyAsInt(x);
                    due("one thought behind another", other.applyAsInt(x), other.applyAsInt(Towns.full()));
                }
            }
        });
    }

    private static void behind() {
        says(16, "BEHIND n (0 .. 100) HOURS", () -> {
            LevelCellars x = hill();
            int[] odd = {MIN, -1, 101, MAX};
            for (int n : odd) {
                for (int what = 0; what < 3; what++) {
                    due("behind(" + n + ", " + what + ")", x.behind(n, what), BAD);
                }
            }
            due("0 HOURS: as it is", x.behind(0, 0), 727);
            due("0 HOURS: as it is", x.behind(0, 1), 0);
            due("0 HOURS: as it is", x.behind(0, 2), 250);
            LevelCellars y = hill();
            y.hours(100);
            due("100 HOURS", x.behind(100, 0), y.town(0));
            due("100 HOURS", x.behind(100, 5), y.told(3, 3));
        });
        says(16, "what 0 FULL of all, 1 SPILT; 2 and k: FULL of CELLAR k. BAD.", () -> {
            LevelCellars x = withCellars(0, 0);
            wine(x, 0, 1, 2, 3);
            wine(x, 1, 4, 5, 6);
            due("FULL of 0", x.behind(0, 2), 6);
            due("FULL of the last one", x.behind(0, 3), 15);
            due("of none", x.behind(0, 4), BAD);
            int[] odd = {MIN, MIN + 1, MIN + 2, -1, 10, MAX};
            for (int what : odd) {
                due("what " + what, x.behind(0, what), BAD);
            }
            LevelCellars y = new LevelCellars();
            due("FULL of all without CELLARS", y.behind(100, 0), 0);
            due("SPILT without CELLARS", y.behind(100, 1), 0);
            due("no CELLAR 0", y.behind(1, 2), BAD);
            LevelCellars z = withCellars(0, 0, 0, 0, 0, 0, 0, 0);
            wine(z, 7, 9, 0, 0);
            due("the last of eight", z.behind(1, 9), 9);
            due("a ninth", z.behind(1, 10), BAD);
        });
        says(16, "SPILT; FULL of a CELLAR.", () -> {
            LevelCellars x = withCellars(2);
            wine(x, 0, 100, 0, 0);
            x.hours(1);
            due("5 were SPILT before, 4 more are", x.behind(1, 1), 9);
            due("91", x.behind(1, 2), 91);
        });
    }

    private static void taste() {
        says(17, "TASTE of a SORT in a CELLAR behind n (0 .. 100). BAD.", () -> {
            LevelCellars x = hill();
            int[] odd = {MIN, -1, 101, MAX};
            for (int v : odd) {
                due("n " + v, x.taste(0, 0, v), BAD);
                due("cellar " + v, x.taste(v, 0, 1), BAD);
                due("sort " + v, x.taste(0, v, 1), BAD);
            }
            due("no CELLAR 4", x.taste(4, 0, 1), BAD);
            due("no SORT 3", x.taste(0, 3, 1), BAD);
            LevelCellars y = hill();
            y.hours(100);
            int[] now = {200, 50, 0};
            for (int sort = 0; sort < 3; sort++) {
                due("0 HOURS, SORT " + sort, x.taste(0, sort, 0), now[sort]);
                due("100 HOURS, SORT " + sort, x.taste(0, sort, 100), y.told(0, 8 + sort));
                due("100 HOURS, the last CELLAR", x.taste(3, sort, 100), y.told(3, 8 + sort));
            }
        });
    }

    /** A drop an hour runs out of cellar 0. */
    private static LevelCellars dropping(int drops) {
        LevelCellars x = withCellars(0, 0);
        x.set(1, 1, 8);
        x.pipe(0, 1, 1);
        text(x, "high 0");
        wine(x, 0, drops, 0, 0);
        return x;
    }

    private static void rests() {
        says(18, "REST: behind how many HOURS (0 .. 300) nothing RUNS through any PIPE first.", () -> {
            due("nothing to run", dropping(0).rests(), 0);
            due("1 HOUR", dropping(1).rests(), 1);
            due("299 HOURS", dropping(299).rests(), 299);
            due("300 HOURS", dropping(300).rests(), 300);
        });
        says(18, "REST. NONE: not by then.", () -> {
            due("301 HOURS", dropping(301).rests(), NONE);
            due("999 HOURS", dropping(999).rests(), NONE);
            // 9 wide, and HIGH is FULL: it runs to and fro for ever.
            LevelCellars x = withCellars(0, 0);
            x.pipe(0, 1, 9);
            text(x, "high f*1");
            x.set(0, 2, 99);
            x.set(1, 2, 99);
            wine(x, 0, 30, 0, 0);
            due("never", x.rests(), NONE);
        });
        says(18, "nothing RUNS through any PIPE first", () -> {
            due("without CELLARS", new LevelCellars().rests(), 0);
            due("without PIPES", withCellars(0, 0).rests(), 0);
            LevelCellars x = dropping(999);
            x.cork(0, 1);
            due("CORKED", x.rests(), 0);
            // LEVELS are alike now; behind an hour the LEAKY one's is another.
            LevelCellars y = withCellars(0, 2);
            y.pipe(0, 1, 9);
            wine(y, 0, 110, 0, 0);
            wine(y, 1, 100, 0, 0);
            due("at first, not for good", y.rests(), 0);
            y.hours(1);
            due("it runs then", y.town(2), 1);
            LevelCellars z = dropping(5);
            z.cellar(0, 99, 1);
            z.pipe(2, 0, 1);
            due("no PIPE at all runs", z.rests(), 5);
        });
    }

    private static void corks() {
        says(19, "CORK for a CELLAR, n (1 .. 60): what 0 the PIPE, 1 FULL.", () -> {
            LevelCellars x = hill();
            int[] odd = {MIN, -1, 0, 61, MAX};
            for (int n : odd) {
                due("n " + n, x.corks(0, n, 0), BAD);
            }
            int[] not = {MIN, -1, 2, MAX};
            for (int what : not) {
                due("what " + what, x.corks(0, 1, what), BAD);
            }
            int[] none = {MIN, -1, 4, 8, MAX};
            for (int cellar : none) {
                due("cellar " + cellar, x.corks(cellar, 1, 0), BAD);
            }
            int[] edges = {1, 60};
            for (int n : edges) {
                int most = -1;
                int best = -1;
                for (int p = 0; p < 3; p++) {
                    LevelCellars y = hill();
                    y.cork(p, 1);
                    y.hours(n);
                    if (y.told(0, 3) > most) {
                        most = y.told(0, 3);
                        best = p;
                    }
                }
                due("corks(0, " + n + ", 0)", x.corks(0, n, 0), best);
                due("corks(0, " + n + ", 1)", x.corks(0, n, 1), most);
            }
        });
        says(19, "BAD; NONE: all are CORKED.", () -> {
            LevelCellars x = hill();
            x.cork(0, 1);
            x.cork(2, 1);
            due("one is not", x.corks(0, 1, 0), 1);
            x.cork(1, 1);
            due("all are", x.corks(0, 1, 0), NONE);
            due("all are", x.corks(0, 1, 1), NONE);
            due("BAD ahead of NONE", x.corks(0, 61, 0), BAD);
            due("BAD ahead of NONE", x.corks(4, 1, 0), BAD);
            due("BAD ahead of NONE", x.corks(0, 1, 2), BAD);
            due("without PIPES", withCellars(0).corks(0, 1, 0), NONE);
            due("without PIPES", withCellars(0).corks(0, 1, 1), NONE);
        });
        says(19, "the PIPE (not CORKED) that, if it were CORKED now, leaves FULL of it greatest behind n HOURS; of several the least", () -> {
            // 3 * 10 / 2 = 15 run through each of 1 and 2, by turns; whichever is CORKED, 0 keeps as much.
            LevelCellars x = withCellars(0, 0, 0);
            x.pipe(1, 2, 1);
            x.pipe(0, 1, 3);
            x.pipe(0, 1, 3);
            wine(x, 0, 100, 0, 0);
            due("1 and 2 alike", x.corks(0, 1, 0), 1);
            due("it keeps 85", x.corks(0, 1, 1), 85);
            x.cork(1, 1);
            due("1 is CORKED already", x.corks(0, 1, 0), 2);
            due("it keeps all", x.corks(0, 1, 1), 100);
            due("no PIPE matters to an empty one", x.corks(2, 1, 0), 0);
            due("FULL 0", x.corks(2, 1, 1), 0);
        });
    }

    private static void dig() {
        says(20, "DIG for n (1 .. 40): what 0 the two, 1 SPILT.", () -> {
            LevelCellars x = hill();
            int[] odd = {MIN, -1, 0, 41, MAX};
            for (int n : odd) {
                due("n " + n, x.dig(n, 0), BAD);
            }
            int[] not = {MIN, -1, 2, MAX};
            for (int what : not) {
                due("what " + what, x.dig(1, what), BAD);
            }
            int[] pairs = {3, 12, 13};
            int[] edges = {1, 40};
            for (int n : edges) {
                int least = MAX;
                int best = -1;
                for (int pair : pairs) {
                    LevelCellars y = hill();
                    y.pipe(pair / 10, pair % 10, 3);
                    y.hours(n);
                    if (y.town(1) < least) {
                        least = y.town(1);
                        best = pair;
                    }
                }
                due("dig(" + n + ", 0)", x.dig(n, 0), best);
                due("dig(" + n + ", 1)", x.dig(n, 1), least);
            }
        });
        says(20, "BAD; NONE: no two are without a PIPE.", () -> {
            due("without CELLARS", new LevelCellars().dig(1, 0), NONE);
            due("without CELLARS", new LevelCellars().dig(1, 1), NONE);
            due("one CELLAR", withCellars(0).dig(1, 0), NONE);
            LevelCellars x = withCellars(0, 0, 0);
            x.pipe(1, 0, 1);
            x.pipe(2, 0, 1);
            due("two are without", x.dig(1, 0), 12);
            x.pipe(1, 2, 1);
            due("no two are", x.dig(1, 0), NONE);
            due("no two are", x.dig(1, 1), NONE);
            x.cork(0, 1);
            due("a CORKED one is a PIPE", x.dig(1, 0), NONE);
            due("BAD ahead of NONE", x.dig(41, 0), BAD);
            due("BAD ahead of NONE", x.dig(1, 2), BAD);
        });
        says(20, "(lesser one first; no PIPE between them)", () -> {
            LevelCellars x = withCellars(0, 0, 0, 0, 0, 0, 0, 0);
            x.set(7, 2, 1);
            wine(x, 7, 20, 0, 0);
            for (int c = 0; c < 6; c++) {
                x.pipe(c % 2 == 0 ? c : 7, c % 2 == 0 ? 7 : c, 1);
                x.cork(c, 1);
            }
            due("6 and 7, the last ones", x.dig(1, 0), 67);
            due("3 * 2 / 2 = 3 run: 17 are not above the lip", x.dig(1, 1), 0);
        });
        says(20, "joined by a PIPE with WIDE 3, numbered behind all others", () -> {
            // 1 fills up from 0 first: 9 * 10 / 2 = 45, HIGH 24 and 20 then; 3 * 24 / 2 = 36 go on to 2.
            LevelCellars x = withCellars(0, 0, 0);
            wine(x, 0, 300, 0, 0);
            wine(x, 1, 200, 0, 0);
            x.set(0, 2, 99);
            x.pipe(0, 1, 9);
            x.pipe(2, 0, 1);
            x.cork(1, 1);
            due("1 and 2", x.dig(1, 0), 12);
            due("200 and 45 less 36: HIGH is LIP", x.dig(1, 1), 0);
            x.set(1, 8, 210);
            // 9 * 9 / 2 = 40, HIGH 25: 3 * 24 / 2 = 36 with 2's HIGH of 1; 214 stand above the lip: 54 are SPILT.
            x.set(2, 8, 10);
            due("HIGH 21 of 214", x.dig(1, 1), 54);
        });
        says(20, "(a thirteenth, too)", () -> {
            LevelCellars x = withCellars(0, 0, 0);
            x.set(1, 2, 19);
            wine(x, 1, 200, 0, 0);
            for (int p = 0; p < 12; p++) {
                x.pipe(0, 1, 1);
                x.cork(p, 1);
            }
            due("1 and 2", x.dig(1, 0), 12);
            due("30 run: HIGH 17", x.dig(1, 1), 0);
            due("twelve still", x.count(1), 12);
            due("nothing runs through a thirteenth", x.rests(), 0);
            due("no thirteenth is there", x.pipeOf(12, 0), BAD);
            due("nor may it come", x.pipe(0, 2, 1), FULL);
        });
        says(20, "leave least SPILT behind n HOURS; 10 times the one, and the other; of several the least", () -> {
            LevelCellars x = withCellars(0, 0, 0, 0);
            due("all alike", x.dig(1, 0), 1);
            x.pipe(0, 1, 1);
            due("0 and 2", x.dig(1, 0), 2);
            x.pipe(0, 2, 1);
            x.pipe(3, 0, 1);
            due("1 and 2", x.dig(1, 0), 12);
            LevelCellars y = withCellars(2, 0);
            wine(y, 0, 100, 0, 0);
            y.hours(1);
            due("5 were SPILT before; 3 * 10 / 2 run, 80 / 20", y.dig(1, 1), 9);
        });
    }

    private static void loser() {
        says(21, "LOSER for n (1 .. 60): what 0 the CELLAR, 1 by how much.", () -> {
            LevelCellars x = hill();
            int[] odd = {MIN, -1, 0, 61, MAX};
            for (int n : odd) {
                due("n " + n, x.loser(n, 0), BAD);
            }
            int[] not = {MIN, -1, 2, MAX};
            for (int what : not) {
                due("what " + what, x.loser(1, what), BAD);
            }
            int[] edges = {1, 60};
            for (int n : edges) {
                LevelCellars y = hill();
                y.hours(n);
                int most = MIN;
                int best = -1;
                for (int c = 0; c < 4; c++) {
                    if (x.told(c, 3) - y.told(c, 3) > most) {
                        most = x.told(c, 3) - y.told(c, 3);
                        best = c;
                    }
                }
                due("loser(" + n + ", 0)", x.loser(n, 0), best);
                due("loser(" + n + ", 1)", x.loser(n, 1), most);
            }
        });
        says(21, "BAD; NONE: there are no CELLARS.", () -> {
            LevelCellars x = new LevelCellars();
            due("what 0", x.loser(1, 0), NONE);
            due("what 1", x.loser(60, 1), NONE);
            due("BAD ahead of NONE", x.loser(0, 0), BAD);
            due("BAD ahead of NONE", x.loser(1, 2), BAD);
            x.cellar(0, 1, 1);
            due("there is one", x.loser(1, 0), 0);
        });
        says(21, "is less than now by most; of several the least; by how much (may be below 0)", () -> {
            LevelCellars x = withCellars(0, 2, 2, 0);
            due("nothing is lost: the least", x.loser(9, 0), 0);
            due("by nothing", x.loser(9, 1), 0);
            wine(x, 1, 100, 0, 0);
            wine(x, 2, 100, 0, 0);
            due("1 and 2 alike", x.loser(1, 0), 1);
            due("by 5", x.loser(1, 1), 5);
            // 0 takes in, so that it is less by less than nothing; 1 is less by 0 and then some.
            LevelCellars y = withCellars(0, 0);
            y.pipe(0, 1, 2);
            wine(y, 1, 100, 0, 0);
            due("not the one that takes in", y.loser(1, 0), 1);
            due("by 10", y.loser(1, 1), 10);
        });
    }

    private static void tap() {
        says(22, "TAP of a CELLAR, for n (1 .. 60). BAD.", () -> {
            LevelCellars x = hill();
            int[] odd = {MIN, -1, 0, 61, MAX};
            for (int n : odd) {
                due("n " + n, x.tap(0, n), BAD);
            }
            int[] none = {MIN, -1, 4, 8, MAX};
            for (int cellar : none) {
                due("cellar " + cellar, x.tap(cellar, 1), BAD);
            }
            int[] edges = {1, 60};
            for (int n : edges) {
                for (int c = 0; c < 4; c++) {
                    LevelCellars as = hill();
                    LevelCellars emptied = hill();
                    wine(emptied, c, 0, 0, 0);
                    as.hours(n);
                    emptied.hours(n);
                    int want = as.town(0) - as.told(c, 3) - (emptied.town(0) - emptied.told(c, 3));
                    due("tap(" + c + ", " + n + ")", x.tap(c, n), want);
                }
            }
        });
        says(22, "what FULL of all others, together, is less behind n HOURS, if it were emptied now (its WINE gone), than as it is", () -> {
            LevelCellars x = withCellars(0, 0);
            x.pipe(0, 1, 2);
            wine(x, 0, 40, 30, 30);
            due("10 run to 1", x.tap(0, 1), 10);
            due("an empty one, as it is", x.tap(1, 1), 0);
            due("no others", withCellars(2).tap(0, 60), 0);
            // 1 stands at its lip; by 10 more it is above it, and 219 / 4 + 1 are lost. From an empty 0 20 come back.
            LevelCellars y = withCellars(0, 0);
            y.pipe(0, 1, 2);
            wine(y, 0, 300, 0, 0);
            wine(y, 1, 209, 0, 0);
            due("164 less 189", y.tap(0, 1), -25);
        });
    }

    private static void dugBounds() {
        says(23, "DUG by a SHEET, for a CELLAR: what 0 the PIPE (NONE: as it is), 1 the differences, together. BAD; NOTHING.", () -> {
            LevelCellars x = hill();
            int[] odd = {MIN, -1, 4, MAX};
            for (int v : odd) {
                due("sheet " + v, x.dug(v, 0, 0), BAD);
                due("cellar " + v, x.dug(0, v, 0), BAD);
                due("what " + v, x.dug(0, 0, v), BAD);
            }
            due("what 2", x.dug(0, 0, 2), BAD);
            due("cellar 8", x.dug(0, 8, 0), BAD);
            for (int sheet = 1; sheet < 4; sheet++) {
                due("MISSING " + sheet, x.dug(sheet, 0, 0), NOTHING);
                due("MISSING " + sheet, x.dug(sheet, 0, 1), NOTHING);
                due("BAD cellar ahead of NOTHING", x.dug(sheet, 4, 0), BAD);
                due("BAD what ahead of NOTHING", x.dug(sheet, 0, 2), BAD);
            }
            sheet(x, 3, 0, 40);
            due("the last SHEET and CELLAR", x.dug(3, 3, 0), NONE);
        });
        says(23, "with 0 to 24 places", () -> {
            LevelCellars x = hill();
            x.sheet(1, 0, 0);
            due("no places", x.dug(1, 0, 0), NONE);
            due("no places", x.dug(1, 0, 1), 0);
            LevelCellars y = hill();
            y.cork(1, 1);
            x.sheet(1, 0, 24);
            for (int k = 0; k < 24; k++) {
                x.mark(1, k, y.told(0, 5));
                y.hours(1);
            }
            due("24 places show PIPE 1", x.dug(1, 0, 0), 1);
            due("without difference", x.dug(1, 0, 1), 0);
            x.mark(1, 23, 32767);
            LevelCellars z = hill();
            z.cork(1, 1);
            z.hours(23);
            due("the last place", x.dug(1, 0, 1), 32767 - z.told(0, 5));
        });
    }

    private static void dugDifferences() {
        says(23, "leaves LEVEL of the CELLAR behind k HOURS (k from 0 on) that differs least", () -> {
            LevelCellars x = withCellars(0, 0);
            x.pipe(0, 1, 2);
            wine(x, 0, 100, 0, 0);
            sheet(x, 0, 0, 15);
            due("now it is 20, CORKED or not", x.dug(0, 0, 0), NONE);
            due("now it is 20", x.dug(0, 0, 1), 5);
            sheet(x, 0, 0, 20, 20);
            due("CORKED it is 20 behind 1", x.dug(0, 0, 0), 0);
            due("CORKED it is 20 behind 1", x.dug(0, 0, 1), 0);
            sheet(x, 0, 0, 20, 19);
            due("as it is it is 19 behind 1", x.dug(0, 0, 0), NONE);
            due("as it is it is 19 behind 1", x.dug(0, 0, 1), 0);
            sheet(x, 0, 0, 20, 30);
            due("10 off, not 11", x.dug(0, 0, 0), 0);
            due("10 off, not 11", x.dug(0, 0, 1), 10);
        });
        says(23, "from places k that are numbers (signs left out), together", () -> {
            LevelCellars x = withCellars(0, 0);
            x.pipe(0, 1, 2);
            wine(x, 0, 100, 0, 0);
            sheet(x, 0, 1, 17, 23, NONE);
            due("3 too much, 3 too little", x.dug(0, 0, 1), 6);
            sheet(x, 0, 1, NONE, NONE, NONE);
            due("no numbers", x.dug(0, 0, 0), NONE);
            due("no numbers", x.dug(0, 0, 1), 0);
            sheet(x, 0, 1, NONE, 20, NONE);
            due("a number alone", x.dug(0, 0, 0), 0);
            sheet(x, 0, 1, -99999, 99999);
            due("far off", x.dug(0, 0, 1), 100019 + 99979);
            sheet(x, 0, 0, -32768, 0);
            due("far off, shorts", x.dug(0, 0, 1), 32788 + 19);
        });
        says(23, "of several the least; -1 (told as NONE), if as it is it differs no more than with any", () -> {
            LevelCellars x = withCellars(0, 0, 0);
            x.pipe(2, 1, 9);
            x.pipe(0, 1, 3);
            x.pipe(0, 1, 3);
            wine(x, 0, 100, 0, 0);
            // 15 run, then 3 * 7 / 2 = 10: HIGH 7; with either one CORKED 15 alone: HIGH 8.
            sheet(x, 0, 0, 20, 18);
            due("1 and 2 alike", x.dug(0, 0, 0), 1);
            due("no difference", x.dug(0, 0, 1), 0);
            sheet(x, 0, 0, 20, 17);
            due("as it is", x.dug(0, 0, 0), NONE);
            x.cork(1, 1);
            x.cork(2, 1);
            sheet(x, 0, 0, 20, 18);
            due("CORKED already: no more than as it is", x.dug(0, 0, 0), NONE);
            due("2 off", x.dug(0, 0, 1), 2);
            LevelCellars y = withCellars(0);
            sheet(y, 0, 0, 12);
            due("without PIPES", y.dug(0, 0, 0), NONE);
            due("without PIPES", y.dug(0, 0, 1), 2);
        });
    }

    private static void fee() {
        says(24, "(what fee gives is told by fee(); without a TEXT: SPILT)", () -> {
            LevelCellars x = withCellars(2);
            wine(x, 0, 100, 0, 0);
            due("at first", x.fee(), 0);
            x.hours(2);
            due("SPILT", x.fee(), 9);
            text(x, "high f");
            text(x, "fine 7");
            due("TEXTS of other KEYS", x.fee(), 9);
            text(x, "fee 7");
            due("a TEXT", x.fee(), 7);
        });
        says(24, "of fee s SPILT, h THE HOUR", () -> {
            LevelCellars x = withCellars(2);
            text(x, "fee s*1000+h");
            due("at first", x.fee(), 0);
            wine(x, 0, 100, 0, 0);
            x.hours(2);
            due("9 and 2", x.fee(), 9002);
            text(x, "fee 0-h");
            due("below 0", x.fee(), -2);
            LevelCellars y = new LevelCellars();
            text(y, "fee h");
            hoursUpTo(y, 9999);
            due("the last hour", y.fee(), 9999);
        });
        says(24, "Ints wrap;", () -> {
            LevelCellars x = new LevelCellars();
            text(x, "fee 9999*9999*9999");
            due("9999 * 9999 * 9999", x.fee(), 9999 * 9999 * 9999);
        });
    }

    private static void fine() {
        says(25, "What fine gives for a CELLAR. BAD.", () -> {
            LevelCellars x = withCellars(0, 0);
            int[] none = {MIN, -1, 2, 8, MAX};
            for (int cellar : none) {
                due("fine(" + cellar + ")", x.fine(cellar), BAD);
            }
            text(x, "fine 7");
            for (int cellar : none) {
                due("fine(" + cellar + ") with a TEXT", x.fine(cellar), BAD);
            }
            due("the last one", x.fine(1), 7);
        });
        says(25, "(what fine gives for a CELLAR is told by fine(); without a TEXT: FULL)", () -> {
            LevelCellars x = withCellars(0, 5);
            due("an empty one", x.fine(0), 0);
            wine(x, 1, 999, 999, 999);
            due("a full one", x.fine(1), 2997);
            text(x, "high f");
            text(x, "fee 7");
            due("TEXTS of other KEYS", x.fine(1), 2997);
        });
        says(25, "of fine w FULL, l LEVEL", () -> {
            LevelCellars x = withCellars(0, 5);
            text(x, "fine w*1000+l");
            due("an empty one", x.fine(0), 10);
            wine(x, 0, 1, 2, 30);
            due("33 and 13", x.fine(0), 33013);
            wine(x, 1, 0, 0, 999);
            due("999 and 10 of a SEALED one", x.fine(1), 999010);
        });
    }
}
