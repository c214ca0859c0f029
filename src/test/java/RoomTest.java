import java.lang.management.ManagementFactory;

/** No call makes objects, none throws, and none fails to end, whatever its arguments and however dear it is. */
public final class RoomTest {
    private static final int[] ODD = {Integer.MIN_VALUE, Integer.MIN_VALUE + 1, -1000000005, -100, -2, -1, 0, 1, 2, 3, 4, 5,
        8, 9, 11, 12, 13, 14, 24, 25, 59, 60, 61, 95, 96, 97, 100, 101, 9999, 10000, Integer.MAX_VALUE - 1, Integer.MAX_VALUE};
    private static final int KINDS_OF_CALL = 44;

    private static int wrong = 0;

    private static long bytes() {
        com.sun.management.ThreadMXBean bean = (com.sun.management.ThreadMXBean) ManagementFactory.getThreadMXBean();
        return bean.getCurrentThreadAllocatedBytes();
    }

    private static void holds(String what, boolean is) {
        if (!is) {
            wrong++;
            System.out.println("does not hold: " + what);
        }
    }

    private static int call(LevelCellars x, int which, int a, int b, int c) {
        switch (which) {
            case 0: return x.cellar(a, b, c);
            case 1: return x.told(a, b);
            case 2: return x.takes(a, b);
            case 3: return x.as(a, b);
            case 4: return x.turns(a, b);
            case 5: return x.set(a, b, c);
            case 6: return x.pipe(a, b, c);
            case 7: return x.pipeOf(a, b);
            case 8: return x.cork(a, b);
            case 9: return x.thirst(a);
            case 10: return x.deal(a);
            case 11: return x.seed(a);
            case 12: return x.hours(a);
            case 13: return x.town(a);
            case 14: return x.behind(a, b);
            case 15: return x.taste(a, b, c);
            case 16: return x.rests();
            case 17: return x.corks(a, b, c);
            case 18: return x.dig(a, b);
            case 19: return x.loser(a, b);
            case 20: return x.tap(a, b);
            case 21: return x.dug(a, b, c);
            case 22: return x.fee();
            case 23: return x.fine(a);
            case 24: return x.feed(a, b, c);
            case 25: return x.trim(a);
            case 26: return x.text();
            case 27: return x.textTold(a, b);
            case 28: return x.why(a);
            case 29: return x.sheet(a, b, c);
            case 30: return x.mark(a, b, c);
            case 31: return x.pour(a);
            case 32: return x.reads(a);
            case 33: return x.copy(a, b, c, a, b);
            case 34: return x.copy(a & 3, b, c & 3, c, a);
            case 35: return x.lay(a, b, c);
            case 36: return x.ask(a, b);
            case 37: return x.item(a, b);
            case 38: return x.rest(a, b);
            case 39: return x.tell(a);
            case 40: return x.check(a);
            case 41: return x.keep();
            case 42: return x.back();
            default: return x.count(a);
        }
    }

    private static LevelCellars dear() {
        LevelCellars x = new LevelCellars();
        x.deal(8);
        for (int c = 0; c < 8; c++) {
            x.set(c, 8, 999);
            x.set(c, 10, 500 + c);
        }
        for (int p = 0; p < 12; p++) {
            x.pipe(p % 8, (p + 1 + p / 8) % 8, 1 + p % 9);
        }
        x.thirst(50);
        for (int s = 0; s < 4; s++) {
            x.sheet(s, s % 2, 24);
            x.lay(s, s % 4, s);
        }
        feed(x, "high f/9+w-w+l-l+w-w+l-l+f-f+w*0+w-w+l-l+w-w+l-l+f-f+w*0+w-w+l-l+w-w+l-l+f-f+w*0+(1+!(2-3+0))*0");
        x.text();
        x.keep();
        return x;
    }

    private static void feed(LevelCellars x, String text) {
        for (int i = 0; i + 12 <= text.length(); i += 12) {
            x.feed(four(text, i), four(text, i + 4), four(text, i + 8));
        }
    }

    private static int four(String text, int at) {
        return text.charAt(at) << 24 | text.charAt(at + 1) << 16 | text.charAt(at + 2) << 8 | text.charAt(at + 3);
    }

    /** Each kind of call with odd arguments, on a town that is full and on an empty one. */
    private static void oddArguments() {
        int sum = 0;
        for (int a : ODD) {
            for (int b : ODD) {
                LevelCellars[] both = {new LevelCellars(), dear()};
                for (LevelCellars x : both) {
                    for (int which = 0; which < KINDS_OF_CALL; which++) {
                        sum += call(x, which, a, b, ODD[(a & 7) + (b & 7) + which % 16]);
                    }
                }
            }
        }
        System.out.println("odd arguments: " + sum);
    }

    private static void roomOfCalls() {
        LevelCellars x = dear();
        bytes();
        long before = bytes();
        int sum = 0;
        for (int i = 0; i < 512; i++) {
            int which = i % KINDS_OF_CALL;
            sum += call(x, which, i % 5, 1 + i % 3, i % 2);
        }
        long made = bytes() - before;
        System.out.println("bytes made by 512 calls: " + made + " (" + sum + ")");
        holds("512 calls make less than 4096 bytes", made < 4096);
        before = bytes();
        LevelCellars y = new LevelCellars();
        made = bytes() - before;
        System.out.println("bytes of a new object: " + made + " (" + y.count(0) + ")");
        holds("a new object has less than 16384 bytes", made < 16384);
    }

    private static void dearestCalls() {
        LevelCellars x = dear();
        long before = bytes();
        int sum = 0;
        for (int i = 0; i < 60; i++) {
            sum += x.dig(40, i % 2) + x.corks(i % 8, 60, 1) + x.dug(i % 4, i % 8, 1) + x.rests() + x.behind(100, 1);
        }
        long made = bytes() - before;
        System.out.println("bytes made by 300 dear calls: " + made + " (" + sum + ")");
        holds("dear calls make less than 4096 bytes", made < 4096);
    }

    public static void main(String[] args) {
        roomOfCalls();
        dearestCalls();
        oddArguments();
        if (wrong != 0) {
            System.exit(1);
        }
    }
}
