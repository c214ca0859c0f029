/** The sentences that name boundary cases of hours: promises 14 and 15. */
public final class HoursTest extends Sentences {
    public static void main(String[] args) {
        howMany();
        pipesRun();
        sortsThatGo();
        losing();
        lips();
        drinking();
        town();
        end(14, 15);
    }

    private static void sorts(LevelCellars x, int cellar, int zero, int one, int two) {
        due("SORT 0 of " + cellar, x.told(cellar, 8), zero);
        due("SORT 1 of " + cellar, x.told(cellar, 9), one);
        due("SORT 2 of " + cellar, x.told(cellar, 10), two);
    }

    private static void howMany() {
        says(14, "n (1 .. 100) HOURS", () -> {
            LevelCellars x = new LevelCellars();
            int[] odd = {MIN, -1, 0, 101, MAX};
            for (int n : odd) {
                due("hours(" + n + ")", x.hours(n), BAD);
                due("no hour", x.count(2), 0);
                due("no draw", x.count(8), 1);
            }
            due("hours(1)", x.hours(1), 0);
            due("1", x.count(2), 1);
            due("hours(100)", x.hours(100), 0);
            due("101", x.count(2), 101);
        });
        says(14, "THE HOUR is 1 more.", () -> {
            LevelCellars x = new LevelCellars();
            for (int i = 1; i <= 5; i++) {
                x.hours(1);
                due("THE HOUR", x.count(2), i);
                due("one draw in each", x.count(8), drawn(1, i));
            }
        });
        says(14, "HOURS (no more than up to 9999)", () -> {
            LevelCellars x = withCellars(2);
            hoursUpTo(x, 9998);
            due("9998", x.count(2), 9998);
            wine(x, 0, 100, 0, 0);
            int z = x.count(8);
            due("one of two: 100 / 20", x.hours(2), 5);
            due("9999", x.count(2), 9999);
            due("one draw", x.count(8), drawn(z, 1));
            due("none of 100", x.hours(100), 0);
            due("none of 1", x.hours(1), 0);
            due("9999 still", x.count(2), 9999);
            due("no draw", x.count(8), drawn(z, 1));
            due("nothing is lost", x.told(0, 3), 95);
            due("BAD as ever", x.hours(101), BAD);
        });
        says(14, "THE HOUR is 0 at first, 9999 at most.", () -> {
            LevelCellars x = new LevelCellars();
            hoursUpTo(x, 9899);
            due("hours(100)", x.hours(100), 0);
            due("9999", x.count(2), 9999);
            due("9999 draws", x.count(8), drawn(1, 9999));
        });
        says(14, "what was SPILT in them. BAD.", () -> {
            LevelCellars x = withCellars(2);
            wine(x, 0, 100, 0, 0);
            due("5", x.hours(1), 5);
            due("4 of 95, not what was before", x.hours(1), 4);
            due("4 of 91, 4 of 87, 4 of 83", x.hours(3), 12);
            due("all of it", x.town(1), 21);
        });
    }

    private static void pipesRun() {
        says(14, "(1) PIPES by numbers, each by what is in CELLARS by then: what RUNS goes.", () -> {
            LevelCellars x = withCellars(0, 0, 0);
            x.pipe(0, 1, 4);
            x.pipe(1, 2, 4);
            wine(x, 0, 100, 0, 0);
            x.hours(1);
            due("20 went, 4 of them on", x.told(1, 3), 16);
            due("4 came", x.told(2, 3), 4);
            LevelCellars y = withCellars(0, 0, 0);
            y.pipe(1, 2, 4);
            y.pipe(0, 1, 4);
            wine(y, 0, 100, 0, 0);
            y.hours(1);
            due("20 went, none on", y.told(1, 3), 20);
            due("none came", y.told(2, 3), 0);
        });
        says(14, "(nothing, if they are alike)", () -> {
            LevelCellars x = withCellars(0, 0);
            x.pipe(0, 1, 9);
            wine(x, 0, 50, 4, 0);
            wine(x, 1, 0, 0, 50);
            x.hours(3);
            sorts(x, 0, 50, 4, 0);
            sorts(x, 1, 0, 0, 50);
        });
        says(14, "but no more than FULL of the one from which", () -> {
            LevelCellars x = withCellars(0, 0);
            x.set(0, 1, 99);
            x.pipe(0, 1, 9);
            wine(x, 0, 3, 2, 1);
            x.hours(1);
            sorts(x, 0, 0, 0, 0);
            sorts(x, 1, 3, 2, 1);
            x.hours(1);
            sorts(x, 1, 3, 2, 1);
        });
        says(14, "and of that what the other TAKES IN", () -> {
            LevelCellars x = withCellars(0, 3, 5);
            x.set(0, 1, 99);
            x.pipe(0, 2, 9);
            x.pipe(0, 1, 9);
            wine(x, 0, 0, 7, 0);
            x.hours(1);
            due("none went into the SEALED one", x.told(2, 3), 0);
            due("half (cut) went into the VAULT", x.told(1, 3), 3);
            due("the other half stays", x.told(0, 3), 4);
            due("none is SPILT", x.town(1), 0);
        });
    }

    private static void sortsThatGo() {
        says(14, "each SORT gives its own times n, / f (cut)", () -> {
            // 17 of 10, 20, 41: 170 / 71, 340 / 71, 697 / 71 are 2, 4, 9; two lack, of SORT 0.
            LevelCellars x = withCellars(0, 0);
            x.set(0, 1, 27);
            x.pipe(0, 1, 1);
            wine(x, 0, 10, 20, 41);
            x.set(1, 1, 0);
            due("1 * 34 / 2", x.pipeOf(0, 4), 17);
            x.hours(1);
            sorts(x, 0, 6, 16, 32);
            sorts(x, 1, 4, 4, 9);
        });
        says(14, "what is still lacking: of the least SORT of which there is some left, then the next", () -> {
            // 2 of 1, 1, 1: each gives 0; SORT 0 has but one.
            LevelCellars x = withCellars(0, 0);
            x.set(0, 1, 14);
            x.pipe(0, 1, 1);
            wine(x, 0, 1, 1, 1);
            due("1 * 4 / 2", x.pipeOf(0, 4), 2);
            x.hours(1);
            sorts(x, 0, 0, 0, 1);
            sorts(x, 1, 1, 1, 0);
        });
        says(14, "of which there is some left, then the next", () -> {
            // 5 of 2, 2, 2: each gives 1; two lack, and SORT 0 has but one left.
            LevelCellars x = withCellars(0, 0);
            x.set(1, 1, 0);
            x.pipe(0, 1, 1);
            wine(x, 0, 2, 2, 2);
            due("1 * 10 / 2", x.pipeOf(0, 4), 5);
            x.hours(1);
            sorts(x, 0, 0, 0, 1);
            sorts(x, 1, 2, 2, 1);
        });
        says(14, "of the least SORT of which there is some left", () -> {
            // 5 of 0, 3, 4: 0, 2, 2; one lacks, and of SORT 0 there is none.
            LevelCellars x = withCellars(0, 0);
            x.set(1, 1, 0);
            x.pipe(0, 1, 1);
            wine(x, 0, 0, 3, 4);
            due("1 * 10 / 2", x.pipeOf(0, 4), 5);
            x.hours(1);
            sorts(x, 0, 0, 0, 2);
            sorts(x, 1, 0, 3, 2);
        });
        says(14, "WINE of each SORT 0 .. 2 (drops;", () -> manyDrops());
    }

    /** So many drops that SORTS times what goes are above all ints: whole numbers do not wrap around. */
    private static void manyDrops() {
        LevelCellars x = withCellars(0, 0, 0, 0, 0, 0, 0, 0);
        text(x, "high 0");
        sheet(x, 0, 1, NONE, 999, 999, 999, 999, 999, 999, 999);
        x.set(0, 1, 0);
        for (int c = 1; c < 8; c++) {
            x.set(c, 1, 99);
            x.pipe(0, c, 9);
        }
        for (int i = 0; i < 100; i++) {
            x.pour(0);
            x.hours(3);
        }
        for (int i = 0; i < 2; i++) {
            for (int c = 1; c < 8; c++) {
                x.set(c, 9, 999);
            }
            x.hours(3);
        }
        sorts(x, 0, 699300, 13986, 0);
        x.set(0, 2, 1);
        text(x, "high 2");
        for (int p = 0; p < 7; p++) {
            x.cork(p, 1);
        }
        // 713286 / 4 + 1 = 178322; of SORT 1 13986 * 178322 / 713286 = 3496, of SORT 0 174825; 1 lacks.
        due("over the lip", x.hours(1), 178322);
        sorts(x, 0, 699300 - 174826, 13986 - 3496, 0);
    }

    private static void losing() {
        says(14, "(2) CELLARS by numbers: what it LOSES is SPILT (SPILT is more by it; SORTS as told).", () -> {
            // LEAKY: 3 of 30, 0, 30: 1, 0, 1; one lacks, of SORT 0. CHURCH: 1 of 0, 20, 20.
            LevelCellars x = withCellars(2, 4, 0, 1, 3, 5);
            wine(x, 0, 30, 0, 30);
            for (int c = 1; c < 6; c++) {
                wine(x, c, 0, 20, 20);
            }
            due("hours(1)", x.hours(1), 4);
            due("SPILT", x.town(1), 4);
            sorts(x, 0, 28, 0, 29);
            sorts(x, 1, 0, 19, 20);
            for (int c = 2; c < 6; c++) {
                sorts(x, c, 0, 20, 20);
            }
        });
        says(14, "LEAKY: FULL / 20. CHURCH: as LEAKY, less 1 (0 at least).", () -> {
            LevelCellars x = withCellars(2, 4);
            wine(x, 0, 19, 0, 0);
            wine(x, 1, 39, 0, 0);
            due("too little to lose", x.hours(100), 0);
            wine(x, 0, 20, 0, 0);
            wine(x, 1, 40, 0, 0);
            due("just enough, once", x.hours(100), 2);
            due("LEAKY", x.told(0, 3), 19);
            due("CHURCH", x.told(1, 3), 39);
            wine(x, 1, 0, 0, 0);
            wine(x, 0, 0, 0, 0);
            due("nothing to lose", x.hours(1), 0);
        });
        says(14, "AN HOUR: (1) PIPES by numbers", () -> {
            // What ran comes to the LEAKY one ahead of what it loses: 9 * 20 / 2 = 90 run, 90 / 20 are lost.
            LevelCellars x = withCellars(0, 2);
            x.pipe(0, 1, 9);
            wine(x, 0, 200, 0, 0);
            due("hours(1)", x.hours(1), 4);
            due("90 less 4", x.told(1, 3), 86);
        });
    }

    private static void lips() {
        says(14, "(3) CELLARS by numbers: if HIGH is above LIP", () -> {
            LevelCellars x = withCellars(0, 1, 3, 5, 0);
            wine(x, 0, 209, 0, 0);
            wine(x, 1, 419, 0, 0);
            wine(x, 2, 459, 0, 0);
            wine(x, 3, 999, 999, 999);
            due("HIGH is LIP, or is 0", x.hours(1), 0);
            wine(x, 0, 210, 0, 0);
            due("CELLAR: 210 / 4 + 1", x.hours(1), 53);
            wine(x, 1, 420, 0, 0);
            due("DEEP: 420 / 4 + 1", x.hours(1), 106);
            wine(x, 2, 460, 0, 0);
            due("VAULT: 460 / 4 + 1", x.hours(1), 116);
            wine(x, 4, 200, 0, 0);
            x.set(4, 2, 19);
            due("another LIP: 200 / 4 + 1", x.hours(1), 51);
        });
        says(14, "FULL / 4 and 1 drops are SPILT (FULL at most;", () -> {
            LevelCellars x = withCellars(0);
            x.set(0, 2, 1);
            text(x, "high 2");
            int[] full = {0, 1, 2, 3, 4, 7, 8};
            int[] over = {0, 1, 1, 1, 2, 2, 3};
            int all = 0;
            for (int i = 0; i < full.length; i++) {
                wine(x, 0, 0, full[i], 0);
                due("of " + full[i], x.hours(1), over[i]);
                all += over[i];
                due("left", x.told(0, 3), full[i] - over[i]);
                due("SPILT", x.town(1), all);
            }
        });
        says(14, "(FULL at most; SORTS as told).", () -> {
            // 3 of 4, 3, 3: 1, 0, 0; two lack, of SORT 0.
            LevelCellars x = withCellars(0);
            x.set(0, 2, 1);
            text(x, "high 2");
            wine(x, 0, 4, 3, 3);
            due("10 / 4 + 1", x.hours(1), 3);
            sorts(x, 0, 1, 3, 3);
        });
        says(14, "(2) CELLARS by numbers: what it LOSES is SPILT", () -> {
            // Lips look at what is left by then: 205 less 10 stand at LIP 20 (19, and 1).
            LevelCellars x = withCellars(2);
            wine(x, 0, 205, 0, 0);
            due("HIGH is above LIP", x.told(0, 4), 21);
            due("10 of 205, none over the lip", x.hours(1), 10);
        });
    }

    private static void drinking() {
        says(14, "(4) A draw; if its rest by 100 is below THIRST", () -> {
            for (int seed = 0; seed < 20; seed++) {
                int rest = (drawn(seed, 1) >>> 8) % 100;
                LevelCellars x = withCellars(0);
                wine(x, 0, 9, 0, 0);
                x.seed(seed);
                x.thirst(rest);
                due("rest " + rest + ", THIRST as much", x.hours(1), 0);
                due("none is drunk", x.told(0, 3), 9);
                due("one draw", x.count(8), drawn(seed, 1));
                x.seed(seed);
                x.thirst(rest + 1);
                due("rest " + rest + ", THIRST 1 more", x.hours(1), 0);
                due("5 are drunk", x.told(0, 3), 4);
                due("two draws", x.count(8), drawn(seed, 2));
            }
        });
        says(14, "THIRST is 0 .. 100 (0 at first).", () -> {
            LevelCellars x = withCellars(0);
            wine(x, 0, 999, 0, 0);
            x.set(0, 2, 99);
            x.hours(100);
            due("0: none is drunk", x.told(0, 3), 999);
            due("100 draws", x.count(8), drawn(1, 100));
            x.thirst(100);
            x.hours(100);
            due("100: 5 in each", x.told(0, 3), 499);
            due("200 more", x.count(8), drawn(1, 300));
        });
        says(14, "one more draw, its rest by how many CELLARS there are (nothing without)", () -> {
            for (int many = 1; many <= 8; many++) {
                LevelCellars x = new LevelCellars();
                for (int c = 0; c < many; c++) {
                    x.cellar(0, 10, 20);
                    x.set(c, 8, 100);
                }
                x.thirst(100);
                x.seed(many);
                x.hours(1);
                int one = (drawn(many, 2) >>> 8) % many;
                for (int c = 0; c < many; c++) {
                    due("in " + c + " of " + many, x.told(c, 3), c == one ? 95 : 100);
                }
            }
            LevelCellars x = new LevelCellars();
            x.thirst(100);
            due("without CELLARS", x.hours(100), 0);
            due("THE HOUR goes on", x.count(2), 100);
            due("nothing more is drawn", x.count(8), drawn(1, 100));
        });
        says(14, "5 drops are drunk (as many as there are; SORTS as told; not SPILT)", () -> {
            LevelCellars x = withCellars(0);
            x.thirst(100);
            int[] full = {0, 1, 4, 5, 6};
            int[] left = {0, 0, 0, 0, 1};
            for (int i = 0; i < full.length; i++) {
                wine(x, 0, 0, 0, full[i]);
                due("not SPILT", x.hours(1), 0);
                due("left of " + full[i], x.told(0, 3), left[i]);
            }
            // 5 of 10, 0, 2: 4, 0, 0; one lacks, of SORT 0.
            wine(x, 0, 10, 0, 2);
            x.hours(1);
            sorts(x, 0, 5, 0, 2);
            due("none is SPILT", x.town(1), 0);
        });
        says(14, "from that one 5 drops are drunk", () -> {
            // Drinking comes behind the lips: 24 / 4 + 1 = 7 go over, then 5 of 17.
            LevelCellars x = withCellars(0);
            x.thirst(100);
            x.set(0, 2, 1);
            wine(x, 0, 24, 0, 0);
            due("7 go over", x.hours(1), 7);
            due("12 are left", x.told(0, 3), 12);
        });
    }

    private static void town() {
        says(15, "What was 0 FULL of all, together, 1 SPILT, 2 how many PIPES something RUNS through, 3 CELLARS with any WINE, as a "
            + "set. BAD.", () -> {
                LevelCellars x = new LevelCellars();
                int[] odd = {MIN, -1, 4, MAX};
                for (int what : odd) {
                    due("town(" + what + ")", x.town(what), BAD);
                }
                for (int what = 0; what < 4; what++) {
                    due("of nothing, town(" + what + ")", x.town(what), 0);
                }
            });
        says(15, "0 FULL of all, together", () -> {
            LevelCellars x = withCellars(0, 1, 2, 3, 4, 5, 0, 1);
            due("empty ones", x.town(0), 0);
            for (int c = 0; c < 8; c++) {
                wine(x, c, 999, 999, 999);
            }
            due("all that set() allows", x.town(0), 8 * 2997);
        });
        says(15, "2 how many PIPES something RUNS through", () -> {
            LevelCellars x = withCellars(0, 0, 5);
            for (int p = 0; p < 11; p++) {
                x.pipe(0, 1, 1);
            }
            x.pipe(0, 2, 9);
            wine(x, 0, 10, 0, 0);
            due("1 * 1 / 2 is nothing", x.town(2), 0);
            wine(x, 0, 20, 0, 0);
            due("all but the one into a SEALED cellar", x.town(2), 11);
            x.cork(3, 1);
            due("not a CORKED one", x.town(2), 10);
            wine(x, 1, 20, 0, 0);
            due("LEVELS alike", x.town(2), 0);
            wine(x, 1, 40, 0, 0);
            due("the other way", x.town(2), 10);
            x.turns(2, 0);
            due("and into 2", x.town(2), 11);
        });
        says(15, "Sets of CELLARS, of PIPES are told by bits.", () -> {
            LevelCellars x = withCellars(0, 1, 2, 3, 4, 5, 0, 0);
            int set = 0;
            for (int c = 0; c < 8; c++) {
                x.set(c, 8 + c % 3, 1);
                set += 1 << c;
                due("a drop in " + c, x.town(3), set);
            }
            due("all eight", x.town(3), 255);
            x.set(0, 8, 0);
            due("not 0", x.town(3), 254);
        });
    }
}
