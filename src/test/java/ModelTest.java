import java.math.BigInteger;
import java.util.ArrayList;
import java.util.Arrays;
import java.util.List;
import java.util.Random;

/**
 * Runs of calls by lot, each answer set against a second, slow telling of the document that shares nothing with the
 * class: kinds are classes, levels are worked out whenever they are asked for, texts are read by a stack of what is open.
 */
public final class ModelTest {
    private static final int BAD = LevelCellars.BAD;
    private static final int NO = LevelCellars.NO;
    private static final int FULL = LevelCellars.FULL;
    private static final int NONE = LevelCellars.NONE;
    private static final int NOTHING = LevelCellars.NOTHING;
    private static final int KIND = LevelCellars.KIND;
    private static final int INDEX = LevelCellars.INDEX;
    private static final int SIZE = LevelCellars.SIZE;
    private static final int RUNS = 2500;
    private static final int CALLS = 512;

    // ---- kinds

    private static class Kind {
        int high(int given, long full) { return given; }
        long loses(long full) { return 0; }
        long takesIn(long n) { return n; }
        int worth(int lip) { return lip; }
    }

    private static class Deep extends Kind {
        @Override int high(int given, long full) { return super.high(given, full) / 2; }
        @Override int worth(int lip) { return super.worth(lip) + 6; }
    }

    private static class Vault extends Deep {
        @Override int high(int given, long full) { return Math.max(0, super.high(given, full) - 2); }
        @Override long takesIn(long n) { return super.takesIn(n) / 2; }
        @Override int worth(int lip) { return 2 * super.worth(lip); }
    }

    private static class Leaky extends Kind {
        @Override int high(int given, long full) { return super.high(given, full) + (full > 0 ? 1 : 0); }
        @Override long loses(long full) { return full / 20; }
        @Override int worth(int lip) { return 99 - lip; }
    }

    private static class Church extends Leaky {
        @Override long loses(long full) { return Math.max(0, super.loses(full) - 1); }
        @Override int worth(int lip) { return super.worth(lip) - 8; }
    }

    private static class Sealed extends Kind {
        @Override int high(int given, long full) { return 0; }
        @Override long takesIn(long n) { return 0; }
        @Override int worth(int lip) { return 3; }
    }

    private static final Kind[] KINDS = {new Kind(), new Deep(), new Leaky(), new Vault(), new Church(), new Sealed()};

    private static boolean isOf(int kind, int upper) {
        return KINDS[upper].getClass().isInstance(KINDS[kind]);
    }

    // ---- texts

    private static final class Text {
        final List<String> tokens;
        final int key;
        private int at;
        private int[] values;

        Text(List<String> tokens) {
            this.tokens = tokens;
            key = Arrays.asList("high", "fee", "fine").indexOf(tokens.get(0));
        }

        int leaves() {
            int many = 0;
            for (String t : tokens.subList(1, tokens.size())) {
                many += Character.isLetterOrDigit(t.charAt(0)) ? 1 : 0;
            }
            return many;
        }

        int give(int... names) {
            values = names;
            at = 1;
            return or();
        }

        private boolean next(String signs) {
            return at < tokens.size() && signs.contains(tokens.get(at));
        }

        private int or() {
            int v = and();
            while (next("|")) {
                at++;
                int w = and();
                v = (v != 0) | (w != 0) ? 1 : 0;
            }
            return v;
        }

        private int and() {
            int v = test();
            while (next("&")) {
                at++;
                int w = test();
                v = (v != 0) & (w != 0) ? 1 : 0;
            }
            return v;
        }

        private int test() {
            int v = sum();
            if (next("<=>")) {
                String sign = tokens.get(at++);
                int order = Integer.compare(v, sum());
                return order == "<=>".indexOf(sign) - 1 ? 1 : 0;
            }
            return v;
        }

        private int sum() {
            int v = term();
            while (next("+-")) {
                v = tokens.get(at++).equals("+") ? v + term() : v - term();
            }
            return v;
        }

        private int term() {
            int v = piece();
            while (next("*/")) {
                boolean times = tokens.get(at++).equals("*");
                int w = piece();
                v = times ? v * w : w == 0 ? 0 : v / w;
            }
            return v;
        }

        private int piece() {
            String t = tokens.get(at++);
            if (t.equals("!")) {
                return piece() == 0 ? 1 : 0;
            }
            if (t.equals("(")) {
                int v = or();
                at++;
                return v;
            }
            if (Character.isDigit(t.charAt(0))) {
                return Integer.parseInt(t);
            }
            return values[NAMES[key].indexOf(t)];
        }
    }

    private static final String[] NAMES = {"flw", "sh", "wl"};

    private static boolean isLetter(int b) {
        return b >= 'a' && b <= 'z';
    }

    private static boolean isDigit(int b) {
        return b >= '0' && b <= '9';
    }

    /** What has been opened and not yet closed: '(' and '!', and whether a test stands in each ( ). */
    private static final class Open {
        final List<Character> signs = new ArrayList<>();
        final List<Boolean> tests = new ArrayList<>(List.of(false));

        int many(char sign) {
            int n = 0;
            for (char c : signs) {
                n += c == sign ? 1 : 0;
            }
            return n;
        }

        /** A piece has ended, and with it each ! that stands right ahead of it. */
        void endPiece() {
            while (!signs.isEmpty() && signs.get(signs.size() - 1) == '!') {
                signs.remove(signs.size() - 1);
            }
        }

        boolean close() {
            if (signs.isEmpty()) {
                return false;
            }
            signs.remove(signs.size() - 1);
            tests.remove(tests.size() - 1);
            endPiece();
            return true;
        }

        boolean operator(char sign) {
            int top = tests.size() - 1;
            if ("<=>".indexOf(sign) >= 0) {
                boolean first = !tests.get(top);
                tests.set(top, true);
                return first;
            }
            if ("|&".indexOf(sign) >= 0) {
                tests.set(top, false);
                return true;
            }
            return "+-*/".indexOf(sign) >= 0;
        }
    }

    /** The place of the fault, or -1; the words and signs come to tokens. */
    private static int fault(int[] tape, int length, List<String> tokens) {
        Open open = new Open();
        boolean wantsPiece = true;
        int i = 0;
        while (true) {
            int before = i;
            while (i < length && tape[i] == 32) {
                i++;
            }
            if (i == length) {
                return tokens.isEmpty() || wantsPiece || open.signs.size() > 0 ? length : -1;
            }
            int start = i;
            StringBuilder word = new StringBuilder();
            while (i < length && (isLetter(tape[start]) ? isLetter(tape[i]) : isDigit(tape[start]) && isDigit(tape[i]))) {
                word.append((char) tape[i++]);
            }
            boolean isSign = word.length() == 0;
            if (isSign) {
                word.append((char) tape[i++]);
            }
            String t = word.toString();
            boolean glued = !isSign && start == before && start > 0
                    && (isLetter(tape[start - 1]) || isDigit(tape[start - 1]));
            if (tokens.isEmpty()) {
                if (!t.equals("high") && !t.equals("fee") && !t.equals("fine")) {
                    return start;
                }
            } else if (wantsPiece) {
                if (isSign) {
                    boolean opens = t.equals("(") || t.equals("!");
                    if (!opens || open.many(t.charAt(0)) == 8) {
                        return start;
                    }
                    open.signs.add(t.charAt(0));
                    if (t.equals("(")) {
                        open.tests.add(false);
                    }
                } else {
                    int key = Arrays.asList("high", "fee", "fine").indexOf(tokens.get(0));
                    boolean good = isDigit(t.charAt(0)) ? t.length() <= 4 : t.length() == 1 && NAMES[key].contains(t);
                    if (!good || glued) {
                        return start;
                    }
                    open.endPiece();
                    wantsPiece = false;
                }
            } else if (t.equals(")")) {
                if (!open.close()) {
                    return start;
                }
            } else if (isSign && open.operator(t.charAt(0))) {
                wantsPiece = true;
            } else {
                return start;
            }
            tokens.add(t);
        }
    }

    // ---- the town

    private static final class Cellar {
        int kind;
        int floor;
        int lip;
        long[] wine = new long[3];

        Cellar like() {
            Cellar c = new Cellar();
            c.kind = kind;
            c.floor = floor;
            c.lip = lip;
            c.wine = wine.clone();
            return c;
        }

        long full() {
            return wine[0] + wine[1] + wine[2];
        }

        long[] take(long n) {
            long f = full();
            long[] gone = new long[3];
            if (f == 0) {
                return gone;
            }
            long lacking = n;
            for (int s = 0; s < 3; s++) {
                gone[s] = BigInteger.valueOf(wine[s]).multiply(BigInteger.valueOf(n)).divide(BigInteger.valueOf(f)).longValue();
                lacking -= gone[s];
            }
            while (lacking > 0) {
                int s = 0;
                while (wine[s] == gone[s]) {
                    s++;
                }
                gone[s]++;
                lacking--;
            }
            for (int s = 0; s < 3; s++) {
                wine[s] -= gone[s];
            }
            return gone;
        }
    }

    private static final class Pipe {
        int one;
        int other;
        int wide;
        boolean corked;

        Pipe(int one, int other, int wide, boolean corked) {
            this.one = one;
            this.other = other;
            this.wide = wide;
            this.corked = corked;
        }
    }

    private static final class Town {
        List<Cellar> cellars = new ArrayList<>();
        List<Pipe> pipes = new ArrayList<>();
        List<Text> texts = new ArrayList<>();
        long spilt;
        int thirst;
        int hour;
        int z = 1;

        Town like() {
            Town t = new Town();
            for (Cellar c : cellars) {
                t.cellars.add(c.like());
            }
            for (Pipe p : pipes) {
                t.pipes.add(new Pipe(p.one, p.other, p.wide, p.corked));
            }
            t.texts.addAll(texts);
            t.spilt = spilt;
            t.thirst = thirst;
            t.hour = hour;
            t.z = z;
            return t;
        }

        int why(int key) {
            for (int i = texts.size() - 1; i >= 0; i--) {
                if (texts.get(i).key == key) {
                    return i;
                }
            }
            return -1;
        }

        int high(Cellar c) {
            int law = why(0);
            int given = law < 0 ? (int) c.full() / 10 : texts.get(law).give((int) c.full(), c.lip, (int) c.wine[0]);
            return KINDS[c.kind].high(given < 0 ? 0 : given > 999 ? 999 : given, c.full());
        }

        int level(int c) {
            return cellars.get(c).floor + high(cellars.get(c));
        }

        /** From which, to which, how much. */
        long[] runs(Pipe p) {
            int a = level(p.one);
            int b = level(p.other);
            int from = a > b ? p.one : p.other;
            int to = a > b ? p.other : p.one;
            long n = p.corked ? 0 : Math.min(p.wide * Math.abs(a - b) / 2, cellars.get(from).full());
            return new long[] {from, to, KINDS[cellars.get(to).kind].takesIn(n)};
        }

        int running() {
            int many = 0;
            for (Pipe p : pipes) {
                many += runs(p)[2] > 0 ? 1 : 0;
            }
            return many;
        }

        int draw() {
            z = z * 1103515245 + 12345;
            return z >>> 8;
        }

        void spill(Cellar c, long n) {
            long gone = Math.min(n, c.full());
            c.take(gone);
            spilt += gone;
        }

        Town after(int n) {
            for (int i = 0; i < n; i++) {
                for (Pipe p : pipes) {
                    long[] r = runs(p);
                    long[] gone = cellars.get((int) r[0]).take(r[2]);
                    for (int s = 0; s < 3; s++) {
                        cellars.get((int) r[1]).wine[s] += gone[s];
                    }
                }
                for (Cellar c : cellars) {
                    spill(c, KINDS[c.kind].loses(c.full()));
                }
                for (Cellar c : cellars) {
                    if (high(c) > c.lip) {
                        spill(c, c.full() / 4 + 1);
                    }
                }
                if (draw() % 100 < thirst && !cellars.isEmpty()) {
                    Cellar c = cellars.get(draw() % cellars.size());
                    c.take(Math.min(5, c.full()));
                }
                hour++;
            }
            return this;
        }

        long full() {
            long sum = 0;
            for (Cellar c : cellars) {
                sum += c.full();
            }
            return sum;
        }
    }

    // ---- the model of the class

    private static final class Row {
        final int sort;
        final Integer[] v;

        Row(int sort, int n) {
            this.sort = sort;
            v = new Integer[n];
            Arrays.fill(v, 0);
        }

        Row like() {
            Row r = new Row(sort, v.length);
            System.arraycopy(v, 0, r.v, 0, v.length);
            return r;
        }
    }

    private static final class Model {
        Town t = new Town();
        Town image;
        Row[] sheets = new Row[4];
        Object[] slots = new Object[5];
        int[] tape = new int[96];
        int length;
        List<Integer> waiting = new ArrayList<>();

        static boolean in(int v, int a, int b) {
            return v >= a && v <= b;
        }

        boolean isC(int c) {
            return in(c, 0, t.cellars.size() - 1);
        }

        int cellar(int kind, int floor, int lip) {
            if (!in(kind, 0, 5) || !in(floor, 0, 99) || !in(lip, 1, 99)) {
                return BAD;
            }
            if (t.cellars.size() == 8) {
                return FULL;
            }
            Cellar c = new Cellar();
            c.kind = kind;
            c.floor = floor;
            c.lip = lip;
            t.cellars.add(c);
            return t.cellars.size() - 1;
        }

        int told(int cellar, int what) {
            if (!isC(cellar) || !in(what, 0, 10)) {
                return BAD;
            }
            Cellar c = t.cellars.get(cellar);
            long[] all = {c.kind, c.floor, c.lip, c.full(), t.high(c), t.level(cellar), KINDS[c.kind].loses(c.full()),
                KINDS[c.kind].worth(c.lip), c.wine[0], c.wine[1], c.wine[2]};
            return (int) all[what];
        }

        int takes(int cellar, int n) {
            return isC(cellar) && in(n, 0, 9999) ? (int) KINDS[t.cellars.get(cellar).kind].takesIn(n) : BAD;
        }

        int as(int cellar, int kind) {
            if (!isC(cellar) || !in(kind, 0, 5)) {
                return BAD;
            }
            Cellar c = t.cellars.get(cellar);
            return isOf(c.kind, kind) ? c.lip : KIND;
        }

        int turns(int cellar, int kind) {
            if (!isC(cellar) || !in(kind, 0, 5)) {
                return BAD;
            }
            int was = t.cellars.get(cellar).kind;
            t.cellars.get(cellar).kind = kind;
            return was;
        }

        int set(int cellar, int what, int v) {
            if (!isC(cellar)) {
                return BAD;
            }
            int was = told(cellar, what);
            Cellar c = t.cellars.get(cellar);
            if (what == 1 && in(v, 0, 99)) {
                c.floor = v;
            } else if (what == 2 && in(v, 1, 99)) {
                c.lip = v;
            } else if (in(what, 8, 10) && in(v, 0, 999)) {
                c.wine[what - 8] = v;
            } else {
                return BAD;
            }
            return was;
        }

        int pipe(int one, int other, int wide) {
            if (!isC(one) || !isC(other) || one == other || !in(wide, 1, 9)) {
                return BAD;
            }
            if (t.pipes.size() == 12) {
                return FULL;
            }
            t.pipes.add(new Pipe(one, other, wide, false));
            return t.pipes.size() - 1;
        }

        int pipeOf(int pipe, int what) {
            if (!in(pipe, 0, t.pipes.size() - 1) || !in(what, 0, 4)) {
                return BAD;
            }
            Pipe p = t.pipes.get(pipe);
            return (int) new long[] {p.one, p.other, p.wide, p.corked ? 1 : 0, t.runs(p)[2]}[what];
        }

        int cork(int pipe, int v) {
            if (!in(pipe, 0, t.pipes.size() - 1) || !in(v, 0, 1)) {
                return BAD;
            }
            int was = t.pipes.get(pipe).corked ? 1 : 0;
            t.pipes.get(pipe).corked = v == 1;
            return was;
        }

        int thirst(int v) {
            int was = t.thirst;
            t.thirst = in(v, 0, 100) ? v : was;
            return in(v, 0, 100) ? was : BAD;
        }

        int deal(int n) {
            if (!in(n, 1, 8)) {
                return BAD;
            }
            int came = 0;
            while (came < n && t.cellars.size() < 8) {
                Cellar c = new Cellar();
                c.kind = t.draw() % 6;
                c.floor = t.draw() % 60;
                c.lip = 1 + t.draw() % 60;
                c.wine[t.cellars.size() % 3] = t.draw() % 300;
                t.cellars.add(c);
                came++;
            }
            return came;
        }

        int seed(int v) {
            int was = t.z;
            t.z = v;
            return was;
        }

        int hours(int n) {
            if (!in(n, 1, 100)) {
                return BAD;
            }
            long before = t.spilt;
            for (int i = 0; i < n && t.hour < 9999; i++) {
                t.after(1);
            }
            return (int) (t.spilt - before);
        }

        int town(int what) {
            int set = 0;
            for (int c = 0; c < t.cellars.size(); c++) {
                set += t.cellars.get(c).full() > 0 ? 1 << c : 0;
            }
            return in(what, 0, 3) ? (int) new long[] {t.full(), t.spilt, t.running(), set}[what] : BAD;
        }

        int behind(int n, int what) {
            if (!in(n, 0, 100) || what != 0 && what != 1 && !(what >= 2 && isC(what - 2))) {
                return BAD;
            }
            Town u = t.like().after(n);
            return (int) (what == 0 ? u.full() : what == 1 ? u.spilt : u.cellars.get(what - 2).full());
        }

        int taste(int cellar, int sort, int n) {
            if (!isC(cellar) || !in(sort, 0, 2) || !in(n, 0, 100)) {
                return BAD;
            }
            return (int) t.like().after(n).cellars.get(cellar).wine[sort];
        }

        int rests() {
            Town u = t.like();
            int k = 0;
            while (k <= 300 && u.running() > 0) {
                u.after(1);
                k++;
            }
            return k <= 300 ? k : NONE;
        }

        int corks(int cellar, int n, int what) {
            if (!isC(cellar) || !in(n, 1, 60) || !in(what, 0, 1)) {
                return BAD;
            }
            long[] best = null;
            for (int p = t.pipes.size() - 1; p >= 0; p--) {
                if (!t.pipes.get(p).corked) {
                    Town u = t.like();
                    u.pipes.get(p).corked = true;
                    long full = u.after(n).cellars.get(cellar).full();
                    if (best == null || full >= best[1]) {
                        best = new long[] {p, full};
                    }
                }
            }
            return best == null ? NONE : (int) best[what];
        }

        int dig(int n, int what) {
            if (!in(n, 1, 40) || !in(what, 0, 1)) {
                return BAD;
            }
            long[] best = null;
            for (int ab = 67; ab >= 1; ab--) {
                int a = ab / 10;
                int b = ab % 10;
                boolean free = a < b && isC(b);
                for (Pipe p : t.pipes) {
                    free &= Math.min(p.one, p.other) != a || Math.max(p.one, p.other) != b;
                }
                if (free) {
                    Town u = t.like();
                    u.pipes.add(new Pipe(a, b, 3, false));
                    u.after(n);
                    if (best == null || u.spilt <= best[1]) {
                        best = new long[] {ab, u.spilt};
                    }
                }
            }
            return best == null ? NONE : (int) best[what];
        }

        int loser(int n, int what) {
            if (!in(n, 1, 60) || !in(what, 0, 1)) {
                return BAD;
            }
            Town u = t.like().after(n);
            long[] best = null;
            for (int c = t.cellars.size() - 1; c >= 0; c--) {
                long lost = t.cellars.get(c).full() - u.cellars.get(c).full();
                if (best == null || lost >= best[1]) {
                    best = new long[] {c, lost};
                }
            }
            return best == null ? NONE : (int) best[what];
        }

        int tap(int cellar, int n) {
            if (!isC(cellar) || !in(n, 1, 60)) {
                return BAD;
            }
            Town u = t.like();
            u.cellars.get(cellar).wine = new long[3];
            Town[] both = {t.like().after(n), u.after(n)};
            long less = 0;
            for (int c = 0; c < t.cellars.size(); c++) {
                less += c == cellar ? 0 : both[0].cellars.get(c).full() - both[1].cellars.get(c).full();
            }
            return (int) less;
        }

        int dug(int sheet, int cellar, int what) {
            if (!in(sheet, 0, 3) || !isC(cellar) || !in(what, 0, 1)) {
                return BAD;
            }
            if (sheets[sheet] == null) {
                return NOTHING;
            }
            int best = NONE;
            long least = Long.MAX_VALUE;
            for (int p = -1; p < t.pipes.size(); p++) {
                Town u = t.like();
                if (p >= 0) {
                    u.pipes.get(p).corked = true;
                }
                long sum = 0;
                for (Integer v : sheets[sheet].v) {
                    sum += v == null ? 0 : Math.abs(u.level(cellar) - v);
                    u.after(1);
                }
                if (sum < least) {
                    least = sum;
                    best = p < 0 ? NONE : p;
                }
            }
            return what == 0 ? best : (int) least;
        }

        int fee() {
            int law = t.why(1);
            return law < 0 ? (int) t.spilt : t.texts.get(law).give((int) t.spilt, t.hour);
        }

        int fine(int cellar) {
            if (!isC(cellar)) {
                return BAD;
            }
            int law = t.why(2);
            int full = (int) t.cellars.get(cellar).full();
            return law < 0 ? full : t.texts.get(law).give(full, t.level(cellar));
        }

        int feed(int a, int b, int c) {
            if (length + 12 > 96) {
                return FULL;
            }
            for (int v : new int[] {a, b, c}) {
                for (byte x : java.nio.ByteBuffer.allocate(4).putInt(v).array()) {
                    tape[length++] = Byte.toUnsignedInt(x);
                }
            }
            return length;
        }

        int trim(int n) {
            if (!in(n, 0, length)) {
                return BAD;
            }
            length = n;
            return n;
        }

        int text() {
            List<String> tokens = new ArrayList<>();
            int fault = fault(tape, length, tokens);
            length = 0;
            if (fault >= 0) {
                return -100 - fault;
            }
            if (t.texts.size() == 14) {
                return FULL;
            }
            t.texts.add(new Text(tokens));
            return t.texts.size() - 1;
        }

        int textTold(int text, int what) {
            if (!in(text, 0, t.texts.size() - 1) || !in(what, 0, 1)) {
                return BAD;
            }
            return what == 0 ? t.texts.get(text).key : t.texts.get(text).leaves();
        }

        int why(int key) {
            return !in(key, 0, 2) ? BAD : t.why(key) < 0 ? NONE : t.why(key);
        }

        int sheet(int sheet, int sort, int n) {
            if (!in(sheet, 0, 3) || !in(sort, -1, 1) || sort >= 0 && n > 24) {
                return BAD;
            }
            if (sort >= 0 && n < 0) {
                return SIZE;
            }
            sheets[sheet] = sort < 0 ? null : new Row(sort, n);
            return sort < 0 ? 0 : n;
        }

        int mark(int sheet, int place, int v) {
            if (!in(sheet, 0, 3)) {
                return BAD;
            }
            Row r = sheets[sheet];
            if (r == null) {
                return NOTHING;
            }
            if (!in(place, 0, r.v.length - 1)) {
                return INDEX;
            }
            if (r.sort == 0 && v == NONE) {
                return KIND;
            }
            if (r.sort == 1 && v != NONE && !in(v, -99999, 99999)) {
                return BAD;
            }
            int low = v << 16 >> 16;
            r.v[place] = r.sort == 0 ? Integer.valueOf(low) : v == NONE ? null : Integer.valueOf(v);
            return 1;
        }

        int pour(int sheet) {
            if (!in(sheet, 0, 3)) {
                return BAD;
            }
            if (sheets[sheet] == null) {
                return NOTHING;
            }
            int many = 0;
            for (int c = 0; c < Math.min(t.cellars.size(), sheets[sheet].v.length); c++) {
                Integer v = sheets[sheet].v[c];
                if (v != null) {
                    int w = v < 0 ? 0 : v > 999 ? 999 : v;
                    many += t.cellars.get(c).wine[0] != w ? 1 : 0;
                    t.cellars.get(c).wine[0] = w;
                }
            }
            return many;
        }

        int reads(int sheet) {
            if (!in(sheet, 0, 3)) {
                return BAD;
            }
            if (sheets[sheet] == null) {
                return NOTHING;
            }
            for (int i = 0; i < sheets[sheet].v.length; i++) {
                Integer v = sheets[sheet].v[i];
                if (v != null && (!isC(i) || t.level(i) != v)) {
                    return i;
                }
            }
            return NONE;
        }

        int copy(int from, int place, int to, int at, int many) {
            if (!in(from, 0, 3) || !in(to, 0, 3)) {
                return BAD;
            }
            Row a = sheets[from];
            Row b = sheets[to];
            if (a == null || b == null) {
                return NOTHING;
            }
            if (a.sort != b.sort) {
                return KIND;
            }
            try {
                System.arraycopy(a.v.clone(), place, b.v, at, many);
            } catch (IndexOutOfBoundsException e) {
                return INDEX;
            }
            return many;
        }

        int held(int slot) {
            Object o = slots[slot];
            return o == null ? 0 : o instanceof Cellar ? 1 : o instanceof Row ? 2 : 3;
        }

        int lay(int slot, int thing, int k) {
            if (!in(slot, 0, 4) || !in(thing, 0, 3) || thing == 1 && !isC(k) || thing == 2 && !in(k, 0, 3)) {
                return BAD;
            }
            if (thing == 2 && sheets[k] == null) {
                return NOTHING;
            }
            int was = held(slot);
            slots[slot] = thing == 0 ? null : thing == 1 ? t.cellars.get(k).like() : thing == 2 ? sheets[k].like() : (Object) k;
            return was;
        }

        int ask(int slot, int kind) {
            if (!in(slot, 0, 4) || !in(kind, 0, 5)) {
                return BAD;
            }
            if (slots[slot] == null) {
                return NOTHING;
            }
            if (slots[slot] instanceof Cellar c && isOf(c.kind, kind)) {
                return KINDS[c.kind].worth(c.lip);
            }
            return KIND;
        }

        int item(int slot, int place) {
            if (!in(slot, 0, 4)) {
                return BAD;
            }
            if (slots[slot] == null) {
                return NOTHING;
            }
            if (slots[slot] instanceof Row r) {
                return !in(place, 0, r.v.length - 1) ? INDEX : r.v[place] == null ? KIND : r.v[place];
            }
            return KIND;
        }

        int rest(int slot, int n) {
            if (!in(slot, 0, 4)) {
                return BAD;
            }
            if (slots[slot] == null) {
                return NOTHING;
            }
            if (slots[slot] instanceof Integer v) {
                return n == 0 ? NO : (int) ((long) v % n);
            }
            return KIND;
        }

        int tell(int v) {
            if (waiting.size() == 60) {
                return FULL;
            }
            waiting.add(v);
            return waiting.size();
        }

        int check(int n) {
            List<Integer> told = waiting;
            waiting = new ArrayList<>();
            if (!in(n, 1, 30)) {
                return BAD;
            }
            if (image == null) {
                return NO;
            }
            List<Integer> due = new ArrayList<>();
            Town u = image.like();
            for (int k = 0; k < n && u.hour < 9999; k++) {
                u.after(1);
                due.add((int) u.full());
                due.add((int) u.spilt);
            }
            int alike = 0;
            while (alike < Math.min(due.size(), told.size()) && due.get(alike).equals(told.get(alike))) {
                alike++;
            }
            return alike == due.size() && alike == told.size() ? 0 : 1 + alike;
        }

        int keep() {
            image = t.like();
            return t.cellars.size();
        }

        int back() {
            if (image == null) {
                return NO;
            }
            t = image.like();
            return t.cellars.size();
        }

        int count(int what) {
            int corked = 0;
            for (Pipe p : t.pipes) {
                corked += p.corked ? 1 : 0;
            }
            return in(what, 0, 8) ? new int[] {t.cellars.size(), t.pipes.size(), t.hour, t.thirst, corked, t.texts.size(),
                waiting.size(), length, t.z}[what] : BAD;
        }
    }

    // ---- runs by lot

    private static final String[] CALL = {"cellar", "told", "takes", "as", "turns", "set", "pipe", "pipeOf", "cork",
        "thirst", "deal", "seed", "hours", "town", "behind", "taste", "rests", "corks", "dig", "loser", "tap", "dug", "fee",
        "fine", "feed", "trim", "text", "textTold", "why", "sheet", "mark", "pour", "reads", "copy", "lay", "ask", "item",
        "rest", "tell", "check", "keep", "back", "count"};
    private static final int[] ODD = {Integer.MIN_VALUE, -1000, -2, -1, 0, 1, 2, 3, 4, 5, 6, 7, 8, 9, 10, 11, 12, 13, 24, 25,
        30, 31, 40, 41, 60, 61, 99, 100, 101, 999, 1000, 9999, 10000, 40000, 99999, 100000, -99999, -100000, NONE, BAD,
        Integer.MAX_VALUE, Integer.MAX_VALUE - 1};

    private static Random lot;
    private static LevelCellars x;
    private static Model m;
    private static final StringBuilder log = new StringBuilder();
    private static int wrong = 0;
    private static long answers = 0;
    private static final int[] answered = new int[CALL.length];

    private static int pick(int a, int b) {
        return lot.nextInt(30) == 0 ? ODD[lot.nextInt(ODD.length)] : a + lot.nextInt(b - a + 1);
    }

    private static void due(int call, String args, int got, int want) {
        answers++;
        log.append(CALL[call]).append('(').append(args).append(") ").append(got).append('\n');
        if (want > -1000 || want < -1000000100) {
            answered[call]++;
        }
        if (got != want && wrong++ < 5) {
            System.out.println(log + "due is " + want + "\n");
        }
    }

    private static String expression(int depth, String names) {
        StringBuilder e = new StringBuilder();
        int parts = 1 + lot.nextInt(depth > 3 ? 1 : 3);
        for (int i = 0; i < parts; i++) {
            if (i > 0) {
                e.append(blank()).append("|&<=>+-*/+-*/".charAt(lot.nextInt(13))).append(blank());
            }
            while (lot.nextInt(6) == 0) {
                e.append('!').append(blank());
            }
            int which = lot.nextInt(depth > 6 ? 5 : 8);
            if (which < 3) {
                e.append(names.charAt(lot.nextInt(names.length())));
            } else if (which < 5) {
                e.append(lot.nextInt(lot.nextInt(4) == 0 ? 10000 : 30));
            } else {
                e.append('(').append(blank()).append(expression(depth + 1, names)).append(blank()).append(')');
            }
        }
        return e.toString();
    }

    private static String blank() {
        return lot.nextInt(8) == 0 ? " " : "";
    }

    private static String tapeByLot() {
        int key = lot.nextInt(3);
        int style = lot.nextInt(20);
        if (style < 2) {
            String open = "(!".repeat(9).substring(lot.nextInt(3), 12 + lot.nextInt(7));
            return "high " + open + "f" + ")".repeat(lot.nextInt(10));
        }
        if (style == 2) {
            StringBuilder junk = new StringBuilder("fee ");
            for (int i = lot.nextInt(20); i > 0; i--) {
                junk.append("sh1234((!!!!)) +-<|&a".charAt(lot.nextInt(21)));
            }
            return junk.toString();
        }
        if (style == 3) {
            return "high ".substring(0, 4 + lot.nextInt(2)) + "!".repeat(lot.nextInt(10)) + lot.nextInt(200000);
        }
        StringBuilder t = new StringBuilder(blank() + new String[] {"high", "fee", "fine"}[key] + " ");
        if (key == 0 && lot.nextInt(3) > 0) {
            t.append("f/").append(1 + lot.nextInt(20)).append("+");
        }
        t.append(expression(lot.nextInt(4), NAMES[key])).append(blank());
        if (lot.nextInt(6) == 0) {
            int at = lot.nextInt(t.length());
            int what = lot.nextInt(3);
            if (what == 0) {
                t.deleteCharAt(at);
            } else if (what == 1) {
                t.setCharAt(at, "()!<&+ f7z%\u00e9".charAt(lot.nextInt(12)));
            } else {
                t.setLength(at);
            }
        }
        return t.length() > 96 ? t.substring(0, 96) : t.toString();
    }

    /** Feeds and reads a whole text; answers how many calls it took. */
    private static int textByLot() {
        StringBuilder t = new StringBuilder(tapeByLot());
        int length = t.length();
        int calls = 2;
        int before = m.length;
        if (before > 0) {
            calls++;
            due(25, "0", x.trim(0), m.trim(0));
        }
        while (t.length() % 12 != 0) {
            t.append(' ');
        }
        for (int i = 0; i < t.length(); i += 12) {
            int[] v = new int[3];
            for (int k = 0; k < 12; k++) {
                v[k / 4] = v[k / 4] << 8 | t.charAt(i + k);
            }
            due(24, v[0] + ", " + v[1] + ", " + v[2], x.feed(v[0], v[1], v[2]), m.feed(v[0], v[1], v[2]));
            calls++;
        }
        due(25, "" + length, x.trim(length), m.trim(length));
        log.append(t).append('\n');
        due(26, "", x.text(), m.text());
        return calls;
    }

    /** Tells right rows, or nearly so, and has them checked. */
    private static int checkByLot() {
        int n = 1 + lot.nextInt(10);
        int calls = 1;
        if (m.image != null) {
            Town u = m.image.like();
            int told = n + (lot.nextInt(3) == 0 ? lot.nextInt(3) - 1 : 0);
            for (int k = 0; k < told; k++) {
                u.after(1);
                int slip = lot.nextInt(25) == 0 ? 1 : 0;
                int full = (int) u.full() + slip;
                int spilt = (int) u.spilt + (lot.nextInt(25) == 0 ? 1 : 0);
                due(38, "" + full, x.tell(full), m.tell(full));
                due(38, "" + spilt, x.tell(spilt), m.tell(spilt));
                calls += 2;
            }
        }
        due(39, "" + n, x.check(n), m.check(n));
        return calls;
    }

    private static int call(int c) {
        int n = m.t.cellars.size();
        int cellar = pick(0, Math.max(0, n - 1));
        int other = pick(0, Math.max(0, n - 1));
        int pipe = pick(0, Math.max(0, m.t.pipes.size() - 1));
        int kind = pick(0, 5);
        int sheet = pick(0, 3);
        int slot = pick(0, 4);
        int bit = pick(0, 1);
        int a;
        int b;
        switch (c) {
            case 0: a = pick(0, 99); b = pick(1, 99); due(c, kind + ", " + a + ", " + b, x.cellar(kind, a, b), m.cellar(kind, a, b)); break;
            case 1: a = pick(0, 10); due(c, cellar + ", " + a, x.told(cellar, a), m.told(cellar, a)); break;
            case 2: a = pick(0, 9999); due(c, cellar + ", " + a, x.takes(cellar, a), m.takes(cellar, a)); break;
            case 3: due(c, cellar + ", " + kind, x.as(cellar, kind), m.as(cellar, kind)); break;
            case 4: due(c, cellar + ", " + kind, x.turns(cellar, kind), m.turns(cellar, kind)); break;
            case 5: a = pick(0, 3) == 0 ? pick(1, 2) : pick(8, 10); b = a < 3 ? pick(1, 99) : pick(0, 999);
                due(c, cellar + ", " + a + ", " + b, x.set(cellar, a, b), m.set(cellar, a, b)); break;
            case 6: a = pick(1, 9); due(c, cellar + ", " + other + ", " + a, x.pipe(cellar, other, a), m.pipe(cellar, other, a)); break;
            case 7: a = pick(0, 4); due(c, pipe + ", " + a, x.pipeOf(pipe, a), m.pipeOf(pipe, a)); break;
            case 8: due(c, pipe + ", " + bit, x.cork(pipe, bit), m.cork(pipe, bit)); break;
            case 9: a = pick(0, 100); due(c, "" + a, x.thirst(a), m.thirst(a)); break;
            case 10: a = pick(1, 3); due(c, "" + a, x.deal(a), m.deal(a)); break;
            case 11: a = lot.nextInt(); due(c, "" + a, x.seed(a), m.seed(a)); break;
            case 12: a = lot.nextInt(8) == 0 ? pick(1, 100) : pick(1, 5); due(c, "" + a, x.hours(a), m.hours(a)); break;
            case 13: a = pick(0, 3); due(c, "" + a, x.town(a), m.town(a)); break;
            case 14: a = pick(0, 30); b = pick(0, 1 + n); due(c, a + ", " + b, x.behind(a, b), m.behind(a, b)); break;
            case 15: a = pick(0, 2); b = pick(0, 30); due(c, cellar + ", " + a + ", " + b, x.taste(cellar, a, b), m.taste(cellar, a, b)); break;
            case 16: due(c, "", x.rests(), m.rests()); break;
            case 17: a = pick(1, 10); due(c, cellar + ", " + a + ", " + bit, x.corks(cellar, a, bit), m.corks(cellar, a, bit)); break;
            case 18: a = pick(1, 6); due(c, a + ", " + bit, x.dig(a, bit), m.dig(a, bit)); break;
            case 19: a = pick(1, 20); due(c, a + ", " + bit, x.loser(a, bit), m.loser(a, bit)); break;
            case 20: a = pick(1, 20); due(c, cellar + ", " + a, x.tap(cellar, a), m.tap(cellar, a)); break;
            case 21: due(c, sheet + ", " + cellar + ", " + bit, x.dug(sheet, cellar, bit), m.dug(sheet, cellar, bit)); break;
            case 22: due(c, "", x.fee(), m.fee()); break;
            case 23: due(c, "" + cellar, x.fine(cellar), m.fine(cellar)); break;
            case 24: a = lot.nextInt(); due(c, a + ", " + a + ", " + bit, x.feed(a, a, bit), m.feed(a, a, bit)); break;
            case 25: a = pick(0, 96); due(c, "" + a, x.trim(a), m.trim(a)); break;
            case 26: return textByLot();
            case 27: a = pick(0, Math.max(0, m.t.texts.size() - 1)); due(c, a + ", " + bit, x.textTold(a, bit), m.textTold(a, bit)); break;
            case 28: a = pick(0, 2); due(c, "" + a, x.why(a), m.why(a)); break;
            case 29: a = pick(-1, 1); b = pick(0, 24); due(c, sheet + ", " + a + ", " + b, x.sheet(sheet, a, b), m.sheet(sheet, a, b)); break;
            case 30: return markByLot(sheet);
            case 31: due(c, "" + sheet, x.pour(sheet), m.pour(sheet)); break;
            case 32: due(c, "" + sheet, x.reads(sheet), m.reads(sheet)); break;
            case 33: int to = pick(0, 3); a = pick(0, 8); b = pick(0, 8); int many = pick(0, 8);
                due(c, sheet + ", " + a + ", " + to + ", " + b + ", " + many, x.copy(sheet, a, to, b, many), m.copy(sheet, a, to, b, many)); break;
            case 34: a = pick(0, 3); b = a == 1 ? cellar : a == 2 ? sheet : lot.nextInt();
                due(c, slot + ", " + a + ", " + b, x.lay(slot, a, b), m.lay(slot, a, b)); break;
            case 35: due(c, slot + ", " + kind, x.ask(slot, kind), m.ask(slot, kind)); break;
            case 36: a = pick(0, 10); due(c, slot + ", " + a, x.item(slot, a), m.item(slot, a)); break;
            case 37: a = pick(-5, 5); due(c, slot + ", " + a, x.rest(slot, a), m.rest(slot, a)); break;
            case 38: a = pick(0, 99); due(c, "" + a, x.tell(a), m.tell(a)); break;
            case 39: return lot.nextInt(3) > 0 ? checkByLot() : plainCheck();
            case 40: due(c, "", x.keep(), m.keep()); break;
            case 41: due(c, "", x.back(), m.back()); break;
            default: a = pick(0, 8); due(42, "" + a, x.count(a), m.count(a)); break;
        }
        return 1;
    }

    private static int plainCheck() {
        int n = pick(1, 30);
        due(39, "" + n, x.check(n), m.check(n));
        return 1;
    }

    /** A place becomes any number, or a LEVEL that is there or will be. */
    private static int markByLot(int sheet) {
        int place = pick(0, 8);
        int v = pick(-100, 1100);
        if (lot.nextInt(2) == 0 && m.isC(place)) {
            v = m.t.level(place);
        } else if (lot.nextInt(8) == 0) {
            v = NONE;
        }
        due(30, sheet + ", " + place + ", " + v, x.mark(sheet, place, v), m.mark(sheet, place, v));
        return 1;
    }

    /** A call by lot, each as often as its weight says. */
    private static int next(int[] weights, int sum) {
        int r = lot.nextInt(sum);
        int c = 0;
        while (r >= weights[c]) {
            r -= weights[c];
            c++;
        }
        return c;
    }

    private static void run(int number) {
        lot = new Random(number);
        x = new LevelCellars();
        m = new Model();
        log.setLength(0);
        log.append("run ").append(number).append('\n');
        int[] weights = new int[CALL.length];
        int sum = 0;
        for (int c = 0; c < weights.length; c++) {
            weights[c] = 1 + lot.nextInt(8);
            if (c == 16 || c == 17 || c == 18) {
                weights[c] = 1;
            }
            if (c == 12 && number % 50 == 0) {
                weights[c] = 400;
            }
            if (c == 26 && number % 3 == 0) {
                weights[c] = 0;
            }
            sum += weights[c];
        }
        int calls = 0;
        for (int i = lot.nextInt(9); i > 0; i--) {
            calls += call(lot.nextInt(2) == 0 ? 0 : 10);
        }
        for (int i = lot.nextInt(14); i > 0; i--) {
            calls += call(6) + call(5);
        }
        while (calls < CALLS && wrong == 0) {
            calls += call(next(weights, sum));
        }
    }

    public static void main(String[] args) {
        int runs = args.length > 0 ? Integer.parseInt(args[0]) : RUNS;
        for (int r = 0; r < runs && wrong == 0; r++) {
            run(r);
        }
        for (int c = 0; c < CALL.length; c++) {
            if (answered[c] == 0) {
                wrong++;
                System.out.println(CALL[c] + " was never answered with more than a refusal");
            }
        }
        System.out.println(answers + " answers set against the model, " + wrong + " not alike");
        if (wrong != 0) {
            System.exit(1);
        }
    }
}
