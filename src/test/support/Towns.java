/** Objects with something of everything, on which calls must leave alone what is not theirs. */
final class Towns {
    // 96 bytes, as many as there is room for.
    private static final String LONGEST = "high f/9+w-w+l-l+w-w+l-l+f-f+w*0+w-w+l-l+w-w+l-l+f-f+w*0+w-w+l-l"
        + "+w-w+l-l+f-f+w*0+(1+!(2-3+0))*00";
    private static final int NO_NUMBER = LevelCellars.NONE;

    private Towns() {
    }

    /** There is room for one more of all things; the numbers that wait are right for three hours. */
    static LevelCellars some() {
        return some(3);
    }

    static LevelCellars someWhereNoNumberWaits() {
        return some(0);
    }

    private static LevelCellars some(int hoursTold) {
        LevelCellars x = someImage();
        LevelCellars told = someImage();
        x.keep();
        x.cellar(5, 60, 7);
        Sentences.wine(x, 4, 30, 20, 10);
        x.pipe(4, 0, 5);
        x.cork(2, 1);
        Sentences.text(x, "fee s+h*7");
        x.hours(4);
        tellHours(x, told, hoursTold);
        Sentences.sheet(x, 0, 0, 11, -12, 13, 32767, -32768, 16);
        Sentences.sheet(x, 1, 1, 21, NO_NUMBER, -99999, 99999);
        x.sheet(3, 0, 0);
        x.lay(0, 1, 1);
        x.lay(1, 2, 1);
        x.lay(2, 3, -77);
        x.mark(1, 0, 22);
        x.turns(1, 3);
        Sentences.feed(x, "fine w+l*3");
        return x;
    }

    private static LevelCellars someImage() {
        LevelCellars x = new LevelCellars();
        x.cellar(0, 20, 30);
        x.cellar(1, 10, 20);
        x.cellar(2, 40, 25);
        x.cellar(3, 5, 60);
        Sentences.wine(x, 0, 200, 50, 0);
        Sentences.wine(x, 1, 100, 0, 0);
        Sentences.wine(x, 2, 0, 0, 300);
        Sentences.wine(x, 3, 0, 77, 0);
        x.pipe(0, 1, 3);
        x.pipe(2, 0, 2);
        x.pipe(2, 3, 5);
        x.thirst(60);
        x.seed(12345);
        Sentences.text(x, "high f/9+1");
        x.hours(1);
        return x;
    }

    /** There is no room for one more of anything; the numbers that wait are right for thirty hours. */
    static LevelCellars full() {
        LevelCellars x = fullImage();
        LevelCellars told = fullImage();
        x.keep();
        x.hours(2);
        tellHours(x, told, 30);
        for (int sheet = 0; sheet < 4; sheet++) {
            x.sheet(sheet, sheet % 2, 24);
            for (int i = 0; i < 24; i += 3) {
                x.mark(sheet, i, 100 * sheet + i);
            }
        }
        x.mark(1, 1, NO_NUMBER);
        x.lay(0, 1, 7);
        x.lay(1, 2, 1);
        x.lay(2, 3, NO_NUMBER);
        x.lay(3, 2, 2);
        x.lay(4, 1, 0);
        Sentences.feed(x, LONGEST);
        return x;
    }

    private static LevelCellars fullImage() {
        LevelCellars x = new LevelCellars();
        x.seed(77);
        x.deal(8);
        for (int p = 0; p < 12; p++) {
            x.pipe(p % 8, (p + 1 + p / 8) % 8, 1 + p % 9);
        }
        x.cork(5, 1);
        x.cork(9, 1);
        x.thirst(100);
        String[] texts = {"high f/8", "fee s+h", "fine w+l"};
        for (int i = 0; i < 14; i++) {
            Sentences.text(x, texts[i % 3]);
        }
        x.hours(3);
        return x;
    }

    private static void tellHours(LevelCellars x, LevelCellars told, int n) {
        for (int i = 0; i < n; i++) {
            told.hours(1);
            x.tell(told.town(0));
            x.tell(told.town(1));
        }
    }
}
