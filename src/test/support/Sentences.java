import java.io.IOException;
import java.nio.file.Files;
import java.nio.file.Path;
import java.util.List;
import java.util.function.Supplier;
import java.util.function.ToIntFunction;
import java.util.regex.Matcher;
import java.util.regex.Pattern;

/**
 * What the tests of the document's sentences share. A test of a sentence names the promise and cites the sentence; what
 * it cites must stand in ../shared/DOC.md, under that promise or in what all promises share.
 */
abstract class Sentences {
    static final int BAD = LevelCellars.BAD;
    static final int NO = LevelCellars.NO;
    static final int FULL = LevelCellars.FULL;
    static final int NONE = LevelCellars.NONE;
    static final int NOTHING = LevelCellars.NOTHING;
    static final int KIND = LevelCellars.KIND;
    static final int INDEX = LevelCellars.INDEX;
    static final int SIZE = LevelCellars.SIZE;
    static final int MIN = Integer.MIN_VALUE;
    static final int MAX = Integer.MAX_VALUE;

    private static final String DOCUMENT = read("../shared/DOC.md");
    private static final int PROMISES = 44;

    private static final boolean[] named = new boolean[PROMISES + 1];
    private static int sentences = 0;
    private static int calls = 0;
    private static int wrong = 0;
    private static String here = "";

    private static String read(String path) {
        try {
            return plain(Files.readString(Path.of(path)));
        } catch (IOException e) {
            return "";
        }
    }

    private static String plain(String text) {
        return text.replaceAll("\\s+", " ");
    }

    /** What the document says under a promise, and what it says ahead of all promises. */
    private static String saidOf(int promise) {
        int first = DOCUMENT.indexOf("## Promise 1:");
        Matcher own = Pattern.compile("## Promise " + promise + ":.*?(?=## )").matcher(DOCUMENT);
        return DOCUMENT.substring(0, Math.max(0, first)) + (own.find() ? own.group() : "");
    }

    /** A test of one sentence of the document. */
    static void says(int promise, String sentence, Runnable test) {
        sentences++;
        named[promise] = true;
        here = "promise " + promise + ", \"" + sentence + "\": ";
        if (!saidOf(promise).contains(plain(sentence))) {
            report("the document does not say so");
        }
        try {
            test.run();
        } catch (RuntimeException | StackOverflowError e) {
            report("a call threw " + e);
        }
    }

    private static void report(String what) {
        wrong++;
        System.out.println(here + what);
    }

    static void due(String call, int got, int want) {
        calls++;
        if (got != want) {
            report(call + " answered " + got + ", due is " + want);
        }
    }

    static void due(String call, boolean holds) {
        due(call, holds ? 1 : 0, 1);
    }

    /** That an object made in one way can't be told from one made in another. */
    static void alike(String call, Supplier<LevelCellars> maker, Supplier<LevelCellars> other) {
        calls++;
        String unlike = Seen.of(maker).unlike(Seen.of(other));
        if (!unlike.isEmpty()) {
            report("behind " + call + ": " + unlike);
        }
    }

    /** That a call answers what is due, and then all is as without it. */
    static void nothingChanges(String call, Supplier<LevelCellars> maker, ToIntFunction<LevelCellars> made, int want) {
        due(call, made.applyAsInt(maker.get()), want);
        alike(call, () -> {
            LevelCellars x = maker.get();
            made.applyAsInt(x);
            return x;
        }, maker);
    }

    /** To be called last: tells how many do not hold, and that each of these promises, but for some, has had a test. */
    static void end(int firstPromise, int lastPromise, Integer... butFor) {
        here = "";
        for (int p = firstPromise; p <= lastPromise; p++) {
            if (!named[p] && !List.of(butFor).contains(p)) {
                report("no test names promise " + p);
            }
        }
        System.out.println(sentences + " sentences, " + calls + " answers looked at, " + wrong + " not as due");
        if (wrong != 0) {
            System.exit(1);
        }
    }

    // ---- what the tests build with

    /** Cellars of some kinds, each with FLOOR 10 and LIP 20. */
    static LevelCellars withCellars(int... kinds) {
        LevelCellars x = new LevelCellars();
        for (int kind : kinds) {
            x.cellar(kind, 10, 20);
        }
        return x;
    }

    static void wine(LevelCellars x, int cellar, int zero, int one, int two) {
        x.set(cellar, 8, zero);
        x.set(cellar, 9, one);
        x.set(cellar, 10, two);
    }

    /** Feeds a text, filled up with blanks that trim() takes away. */
    static void feed(LevelCellars x, String text) {
        int before = x.count(7);
        StringBuilder filled = new StringBuilder(text);
        while (filled.length() % 12 != 0) {
            filled.append(' ');
        }
        for (int i = 0; i < filled.length(); i += 12) {
            x.feed(four(filled, i), four(filled, i + 4), four(filled, i + 8));
        }
        x.trim(before + text.length());
    }

    private static int four(CharSequence bytes, int at) {
        int v = 0;
        for (int i = at; i < at + 4; i++) {
            v = v << 8 | bytes.charAt(i) & 255;
        }
        return v;
    }

    static int text(LevelCellars x, String text) {
        feed(x, text);
        return x.text();
    }

    static void sheet(LevelCellars x, int sheet, int sort, int... places) {
        x.sheet(sheet, sort, places.length);
        for (int i = 0; i < places.length; i++) {
            x.mark(sheet, i, places[i]);
        }
    }

    /** Lets hours pass until so many have. */
    static void hoursUpTo(LevelCellars x, int hour) {
        for (int i = x.count(2); i < hour; i += 100) {
            x.hours(Math.min(100, hour - i));
        }
    }

    /** z behind so many draws. */
    static int drawn(int z, int draws) {
        int v = z;
        for (int i = 0; i < draws; i++) {
            v = v * 1103515245 + 12345;
        }
        return v;
    }
}
