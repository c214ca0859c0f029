/** The sentences that name boundary cases of the tape and of texts: promises 26 to 30. */
public final class TextsTest extends Sentences {
    private static final int IS_A_TEXT = -1;

    public static void main(String[] args) {
        feeding();
        trimming();
        texts();
        words();
        blanks();
        pieces();
        openOnes();
        theEnd();
        faultsOfTheGrammar();
        whatTextsGive();
        told();
        why();
        end(26, 30);
    }

    private static void reads(String tape, int fault) {
        due("\"" + tape + "\"", text(new LevelCellars(), tape), fault == IS_A_TEXT ? 0 : -100 - fault);
    }

    private static void gives(String e, int want) {
        LevelCellars x = withCellars(0);
        x.set(0, 1, 7);
        wine(x, 0, 30, 0, 12);
        due("\"fine " + e + "\" is a TEXT", text(x, "fine " + e), 0);
        due("fine " + e, x.fine(0), want);
    }

    private static void feeding() {
        says(26, "THE TAPE (96 bytes at most", () -> {
            LevelCellars x = new LevelCellars();
            for (int i = 1; i <= 8; i++) {
                due("feed " + i, x.feed(0, 0, 0), 12 * i);
            }
            due("it has 96", x.count(7), 96);
        });
        says(26, "FULL: it would have more than 96.", () -> {
            LevelCellars x = new LevelCellars();
            for (int i = 1; i <= 8; i++) {
                x.feed(0, 0, 0);
            }
            due("108", x.feed(0, 0, 0), FULL);
            due("96 still", x.count(7), 96);
            x.trim(85);
            due("97", x.feed(0, 0, 0), FULL);
            due("85 still", x.count(7), 85);
            x.trim(84);
            due("96", x.feed(0, 0, 0), 96);
        });
        says(26, "Twelve bytes come to THE TAPE, the highest of each number first: how many it has.", () -> {
            LevelCellars x = new LevelCellars();
            due("fee 12+30+45", x.feed(0x66656520, 0x31322b33, 0x302b3435), 12);
            due("text()", x.text(), 0);
            due("fee()", x.fee(), 87);
            // Each of the twelve bytes in turn is 255, which goes on with no TEXT.
            int[] whole = {0x66656520, 0x312b312b, 0x312b3131};
            for (int at = 0; at < 12; at++) {
                int[] v = whole.clone();
                v[at / 4] |= 255 << 24 - at % 4 * 8;
                x.feed(v[0], v[1], v[2]);
                due("byte " + at + " is 255", x.text(), at < 3 ? -100 : -100 - at);
            }
        });
        says(26, "Twelve bytes come to THE TAPE", () -> {
            LevelCellars x = new LevelCellars();
            feed(x, "fee 1+2");
            due("behind what it has", x.feed(0x2b332020, 0x20202020, 0x20202020), 19);
            due("text()", x.text(), 0);
            due("1 + 2 + 3", x.fee(), 6);
        });
    }

    private static void trimming() {
        says(27, "THE TAPE keeps its first n bytes: n. BAD.", () -> {
            LevelCellars x = new LevelCellars();
            due("-1 of nothing", x.trim(-1), BAD);
            due("1 of nothing", x.trim(1), BAD);
            due("0 of nothing", x.trim(0), 0);
            feed(x, "fee 1+2+3+4+");
            int[] odd = {MIN, -1, 13, 96, 97, MAX};
            for (int n : odd) {
                due("trim(" + n + ")", x.trim(n), BAD);
                due("it has 12", x.count(7), 12);
            }
            due("all of it", x.trim(12), 12);
            due("less by one", x.trim(11), 11);
            due("what is gone is gone", x.trim(12), BAD);
            due("it has 11", x.count(7), 11);
            due("text()", x.text(), 0);
            due("the first 11 bytes", x.fee(), 10);
            feed(x, "fee 5");
            due("nothing is kept", x.trim(0), 0);
            due("it has none", x.count(7), 0);
            due("an empty TAPE", x.text(), -100);
        });
        says(27, "THE TAPE (96 bytes at most", () -> {
            LevelCellars x = new LevelCellars();
            for (int i = 0; i < 8; i++) {
                x.feed(0, 0, 0);
            }
            due("97 of 96", x.trim(97), BAD);
            due("96 of 96", x.trim(96), 96);
            due("95 of 96", x.trim(95), 95);
        });
    }

    private static void texts() {
        says(28, "TEXTS, 14 at most, numbered from 0", () -> {
            LevelCellars x = new LevelCellars();
            String[] keys = {"high ", "fee ", "fine "};
            for (int i = 0; i < 14; i++) {
                due("text " + i, text(x, keys[i % 3] + i), i);
            }
            due("a fifteenth", text(x, "fee 99"), FULL);
            due("fourteen still", x.count(5), 14);
            due("the last one counts still", x.fee(), 13);
        });
        says(28, "-100 less the place of its FAULT; FULL.", () -> {
            LevelCellars x = new LevelCellars();
            due("a FAULT at 0", text(x, "gee 1"), -100);
            due("a FAULT at 4", text(x, "fee )"), -104);
            for (int i = 0; i < 14; i++) {
                text(x, "fee 1");
            }
            due("a FAULT ahead of FULL", text(x, "fee )"), -104);
            due("an empty TAPE ahead of FULL", x.text(), -100);
            due("FULL", text(x, "fee 1"), FULL);
        });
        says(28, "an act that reads it uses it up, whatever it answers", () -> {
            LevelCellars x = new LevelCellars();
            due("a TEXT", text(x, "fee 1"), 0);
            due("used up", x.count(7), 0);
            due("a FAULT at once", text(x, "1 fee 1"), -100);
            due("used up", x.count(7), 0);
            due("a FAULT", text(x, "fee 1 1"), -106);
            due("used up", x.count(7), 0);
            due("too soon", text(x, "fee"), -103);
            due("used up", x.count(7), 0);
            due("an empty one", x.text(), -100);
            due("still empty", x.count(7), 0);
            for (int i = 1; i < 14; i++) {
                text(x, "fee 1");
            }
            due("FULL", text(x, "fee 2"), FULL);
            due("used up", x.count(7), 0);
        });
        says(28, "A call that is refused answers one of BAD, NO, FULL, or a FINDING", () -> {
            LevelCellars x = withCellars(0);
            text(x, "high 5");
            text(x, "fee 6");
            text(x, "fine 7");
            String[] refused = {"high 9+", "fee 9)", "fine (9", "high 9 9"};
            for (String tape : refused) {
                due(tape, text(x, tape) <= -100);
                due("three TEXTS", x.count(5), 3);
                due("HIGH", x.told(0, 4), 5);
                due("fee()", x.fee(), 6);
                due("fine(0)", x.fine(0), 7);
            }
            due("the next number", text(x, "fee 8"), 3);
        });
    }

    private static void words() {
        says(28, "KEY: high | fee | fine.", () -> {
            reads("high 1", IS_A_TEXT);
            reads("fee 1", IS_A_TEXT);
            reads("fine 1", IS_A_TEXT);
            String[] none = {"hig 1", "higher 1", "hugh 1", "fe 1", "feed 1", "fin 1", "fines 1", "fene 1", "f 1", "High 1",
                "1", "(high) 1", "!fee 1", "tigh 1", "hige 1", "fei 1", "gee 1", "five 1"};
            for (String tape : none) {
                reads(tape, 0);
            }
            reads("high high", 5);
            reads("high fee 1", 5);
            reads("high 1 fee", 7);
        });
        says(28, "A word is a row of letters a .. z, or of digits, as long as it goes; any other byte is a sign by itself.", () -> {
            reads("high ff", 5);
            reads("high f f", 7);
            reads("feea 1", 0);
            reads("feez 1", 0);
            // The bytes next to a .. z and 0 .. 9 are signs: they end the word.
            char[] signs = {'`', '{', '/', ':', '@', 'A', 'Z', '[', '_', 0, 9, 10, 31, '"', 127, 128, 160, 255};
            for (char sign : signs) {
                reads("fee" + sign, 3);
                reads("fee 1" + sign, sign == '/' ? 6 : 5);
                reads("fee s" + sign, sign == '/' ? 6 : 5);
            }
            reads("fee 0", IS_A_TEXT);
            reads("fee 9", IS_A_TEXT);
            reads("fee a", 4);
            reads("fee z", 4);
        });
        says(28, "NAMES, each one letter: of high f FULL, l LIP, w WINE of SORT 0; of fee s SPILT, h THE HOUR", () -> {
            String[] keys = {"high", "fee", "fine"};
            String[] names = {"flw", "sh", "wl"};
            for (int key = 0; key < 3; key++) {
                for (char c = 'a'; c <= 'z'; c++) {
                    boolean is = names[key].indexOf(c) >= 0;
                    reads(keys[key] + " " + c, is ? IS_A_TEXT : keys[key].length() + 1);
                    reads(keys[key] + " " + c + c, keys[key].length() + 1);
                }
            }
        });
        says(28, "a word right behind another one needs one", () -> {
            reads("high5", 4);
            reads("fee5", 3);
            reads("fine5", 4);
            reads("highf", 0);
            reads("fee 5s", 5);
            reads("fee s5", 5);
            reads("fee 5 s", 6);
            reads("fee (5s)", 6);
            reads("fee 1+5s", 7);
        });
        says(28, "(a word that needs a blank ahead of it", () -> {
            // A word is looked for ahead of its blank: 5 would go on, were there one.
            reads("high5+", 4);
            reads("fee12345", 3);
            reads("high 5", IS_A_TEXT);
        });
    }

    private static void blanks() {
        says(28, "Between words and signs, and at the ends, there may be blanks (byte 32)", () -> {
            reads("fee s", IS_A_TEXT);
            reads("   fee   s   ", IS_A_TEXT);
            reads("  fee(  s  )  ", IS_A_TEXT);
            reads(" fee ! ( s + 1 ) * 2 < 3 & 4 | 5 ", IS_A_TEXT);
            reads("fee!(s+1)*2<3&4|5", IS_A_TEXT);
            reads("  gee 1", 2);
            reads("fee   )", 6);
            reads("fe e 1", 0);
            reads("fee 1 2", 6);
            reads("fee\t1", 3);
            reads("fee\n1", 3);
            reads("fee" + (char) 160 + "1", 3);
            reads("fee" + (char) 0 + "1", 3);
            reads("fee 1" + (char) 0, 5);
        });
    }

    private static void pieces() {
        says(28, "NUMBER (1 to 4 digits)", () -> {
            reads("fee", 3);
            gives("7", 7);
            gives("9999", 9999);
            gives("0000", 0);
            gives("0012", 12);
        });
        says(28, "a NUMBER of more than 4 digits", () -> {
            reads("fee 12345", 4);
            reads("fee 00001", 4);
            reads("fee s+12345", 6);
            reads("fee 1234567890", 4);
            reads("fee (12345", 5);
        });
        says(28, "PIECE: NUMBER (1 to 4 digits) | NAME | ! PIECE | ( E ).", () -> {
            String[] none = {"+", "-", "*", "/", "<", "=", ">", "&", "|", ")", "%", "F"};
            for (String sign : none) {
                reads("high " + sign, 5);
                reads("high " + sign + "f", 5);
                reads("high !" + sign, 6);
                reads("high (" + sign, 6);
                reads("high f+" + sign, 7);
            }
            reads("high -1", 5);
            reads("high ()", 6);
            reads("high (f)", IS_A_TEXT);
            reads("high !f", IS_A_TEXT);
            reads("high !(f)", IS_A_TEXT);
            reads("high !!f", IS_A_TEXT);
        });
    }

    private static String many(String of, int times) {
        return of.repeat(times);
    }

    private static void openOnes() {
        says(28, "the ninth ( that would be open within others", () -> {
            reads("high " + many("(", 8) + "f" + many(")", 8), IS_A_TEXT);
            reads("high " + many("(", 9) + "f" + many(")", 9), 13);
            reads("high " + many("(", 8) + "f" + many(")", 8) + "+" + many("(", 8) + "f" + many(")", 8), IS_A_TEXT);
            reads("high " + many("(f)+", 9) + "f", IS_A_TEXT);
            reads("high " + many("(", 8) + "f)+(f" + many(")", 8), IS_A_TEXT);
            reads("high " + many("(", 8) + "f+(f" + many(")", 9), 15);
            reads("high " + many("(", 7) + "f+((f" + many(")", 9), 15);
            reads("high " + many(" (", 9), 22);
        });
        says(28, "the ninth ! likewise, each by itself", () -> {
            reads("high " + many("!", 8) + "f", IS_A_TEXT);
            reads("high " + many("!", 9) + "f", 13);
            reads("high " + many("!", 8) + "f+" + many("!", 8) + "f", IS_A_TEXT);
            reads("high " + many("!f+", 9) + "f", IS_A_TEXT);
            reads("high " + many("!", 4) + "(" + many("!", 4) + "f)", IS_A_TEXT);
            reads("high " + many("!", 4) + "(" + many("!", 5) + "f)", 14);
            reads("high " + many("!", 8) + "(f+!f)", 16);
            reads("high " + many("!", 8) + "(f)+!f", IS_A_TEXT);
            reads("high (" + many("!", 8) + "f)", IS_A_TEXT);
            // Eight of each stand within others; neither is counted as the other.
            reads("high " + many("!(", 8) + "f" + many(")", 8), IS_A_TEXT);
            reads("high " + many("!(", 8) + "!f", 21);
            reads("high " + many("!(", 8) + "(f", 21);
        });
        says(28, "TEXTS, 14 at most, numbered from 0, from THE TAPE", () -> {
            LevelCellars x = new LevelCellars();
            due("eight of each, behind each sum", text(x, "fee 1+" + many("!(1&1+1*", 8) + "1" + many(")", 8)), 0);
            due("! of 1 + 1 * 1 & ..", x.fee(), 1 + deepest(8));
        });
    }

    /** What !(1&1+1*PIECE) gives, so many of them within one another, the last PIECE being 1. */
    private static int deepest(int levels) {
        int v = 1;
        for (int i = 0; i < levels; i++) {
            v = 1 + 1 * v != 0 ? 0 : 1;
        }
        return v;
    }

    private static void theEnd() {
        says(28, "the end (the place behind the last byte), if it comes too soon", () -> {
            reads("", 0);
            reads("   ", 3);
            reads("high", 4);
            reads("high  ", 6);
            reads("high f+", 7);
            reads("high f+  ", 9);
            reads("high f<", 7);
            reads("high f&", 7);
            reads("high f|", 7);
            reads("high f*", 7);
            reads("high !", 6);
            reads("high (", 6);
            reads("high (f", 7);
            reads("high (f  ", 9);
            reads("high ((f)", 9);
            StringBuilder longest = new StringBuilder("fee s");
            while (longest.length() < 95) {
                longest.append("+1");
            }
            reads(longest.toString(), IS_A_TEXT);
            reads(longest + " ", IS_A_TEXT);
            reads(longest + "1", IS_A_TEXT);
            reads(longest + "+", 96);
            reads(longest + ")", 95);
            reads(many(" ", 96), 96);
            reads(many(" ", 91) + "fee s", IS_A_TEXT);
            reads(many(" ", 92) + "fee ", 96);
            reads(many(" ", 93) + "fee", 96);
        });
    }

    private static void faultsOfTheGrammar() {
        says(28, "TEST: SUM [ (< | = | >) SUM ]", () -> {
            String[] signs = {"<", "=", ">"};
            for (String one : signs) {
                reads("high f" + one + "w", IS_A_TEXT);
                reads("high f" + one + one + "w", 7);
                for (String other : signs) {
                    reads("high f" + one + "w" + other + "l", 8);
                    reads("high (f" + one + "w" + other + "l)", 9);
                    reads("high (f" + one + "w)" + other + "l", IS_A_TEXT);
                    reads("high f" + one + "w&w" + other + "l", IS_A_TEXT);
                    reads("high f" + one + "w|w" + other + "l", IS_A_TEXT);
                }
            }
        });
        says(28, "FAULT: the first byte of the first word or sign with which no TEXT goes on", () -> {
            reads("high f w", 7);
            reads("high f high", 7);
            reads("high f(w)", 6);
            reads("high (f)(w)", 8);
            reads("high (f)w", 8);
            reads("high (f w)", 8);
            reads("high f!w", 6);
            reads("high f)", 6);
            reads("high (f))", 8);
            reads("high f,w", 6);
            reads("high f$ (", 6);
            reads("gee ) 12345", 0);
            reads("high x 12345 )", 5);
            reads("high f + 12345 x", 9);
            reads("high f" + (char) 200 + "w", 6);
        });
    }

    private static void whatTextsGive() {
        says(28, "E, the loosest first: OR: AND { | AND }; AND: TEST { & TEST };", () -> {
            gives("1|0&0", 1);
            gives("0&0|1", 1);
            gives("(1|0)&0", 0);
            gives("1&2=2", 1);
            gives("2&2=1", 0);
            gives("3>2+2", 0);
            gives("2+3*4", 14);
            gives("(2+3)*4", 20);
            gives("9-4-3", 2);
            gives("9-(4-3)", 8);
            gives("100/7/2", 7);
            gives("100/(7/2)", 33);
            gives("7/2*2", 6);
            gives("!0+1", 2);
            gives("!(0+1)", 0);
            gives("0|0|0|7", 1);
            gives("1&1&1&0", 0);
        });
        says(28, "Ints wrap; / is 0 by 0;", () -> {
            gives("1024*1024*1024*2", MIN);
            gives("1024*1024*1024*2-1", MAX);
            gives("1024*1024*1024*4", 0);
            gives("9999*9999*9999", 9999 * 9999 * 9999);
            gives("1024*1024*1024*2/(0-1)", MIN);
            gives("7/0", 0);
            gives("0/0", 0);
            gives("(0-7)/0", 0);
            gives("5+7/(w-w)", 5);
            gives("(0-7)/2", -3);
            gives("7/(0-2)", -3);
        });
        says(28, "tests, & | ! give 1 or 0 (what is not 0 is true; both sides are worked out)", () -> {
            gives("1<2", 1);
            gives("2<2", 0);
            gives("3<2", 0);
            gives("1=2", 0);
            gives("2=2", 1);
            gives("3=2", 0);
            gives("1>2", 0);
            gives("2>2", 0);
            gives("3>2", 1);
            gives("0-1<0", 1);
            gives("5&9", 1);
            gives("(0-5)&9", 1);
            gives("5&0", 0);
            gives("0&5", 0);
            gives("0|9", 1);
            gives("(0-9)|0", 1);
            gives("0|0", 0);
            gives("!5", 0);
            gives("!(0-5)", 0);
            gives("!0", 1);
            gives("!!7", 1);
            gives("0&7/0", 0);
            gives("1|7/0", 1);
        });
        says(28, "Of a KEY that TEXT counts that was told last.", () -> {
            LevelCellars x = withCellars(0);
            text(x, "high 4");
            due("HIGH", x.told(0, 4), 4);
            text(x, "fee 5");
            text(x, "high 6");
            text(x, "fine 7");
            text(x, "fee 8");
            due("HIGH", x.told(0, 4), 6);
            due("fee()", x.fee(), 8);
            due("fine(0)", x.fine(0), 7);
        });
        says(28, "of high f FULL, l LIP, w WINE of SORT 0", () -> {
            LevelCellars x = withCellars(0);
            wine(x, 0, 3, 40, 0);
            text(x, "high f");
            due("f", x.told(0, 4), 43);
            text(x, "high l");
            due("l", x.told(0, 4), 20);
            text(x, "high w");
            due("w", x.told(0, 4), 3);
        });
    }

    private static void told() {
        says(29, "Of a TEXT: what 0 KEY (0 high, 1 fee, 2 fine), 1 how many NUMBERS and NAMES it has. BAD.", () -> {
            LevelCellars x = new LevelCellars();
            due("no TEXT 0", x.textTold(0, 0), BAD);
            text(x, "fine ((w))");
            text(x, "high !f+12*(l-w)/7");
            text(x, "fee 1");
            int[] keys = {2, 0, 1};
            int[] many = {1, 5, 1};
            int[] odd = {MIN, -1, 2, MAX};
            for (int t = 0; t < 3; t++) {
                due("KEY of " + t, x.textTold(t, 0), keys[t]);
                due("NUMBERS and NAMES of " + t, x.textTold(t, 1), many[t]);
                for (int what : odd) {
                    due("what " + what, x.textTold(t, what), BAD);
                }
            }
            int[] none = {MIN, -1, 3, 13, 14, MAX};
            for (int t : none) {
                due("text " + t, x.textTold(t, 0), BAD);
                due("text " + t, x.textTold(t, 1), BAD);
            }
        });
        says(29, "TEXTS, 14 at most, numbered from 0", () -> {
            LevelCellars x = new LevelCellars();
            for (int i = 0; i < 13; i++) {
                text(x, "fee 1");
            }
            StringBuilder longest = new StringBuilder("high f");
            while (longest.length() < 96) {
                longest.append("+f");
            }
            text(x, longest.substring(0, 96));
            due("the last one's KEY", x.textTold(13, 0), 0);
            due("as many as 96 bytes hold", x.textTold(13, 1), 46);
            due("the one ahead of it", x.textTold(12, 1), 1);
            due("no fifteenth", x.textTold(14, 0), BAD);
        });
        says(29, "AN IMAGE keeps all but SHEETS, SLOTS, numbers that wait, THE TAPE", () -> {
            LevelCellars x = new LevelCellars();
            text(x, "fee 1+1");
            x.keep();
            text(x, "high f");
            x.back();
            due("no TEXT 1 any more", x.textTold(1, 0), BAD);
            due("the next one is TEXT 1", text(x, "fine w+w+w"), 1);
            due("its KEY", x.textTold(1, 0), 2);
            due("its NAMES", x.textTold(1, 1), 3);
            due("TEXT 0 still", x.textTold(0, 1), 2);
        });
    }

    private static void why() {
        says(30, "The TEXT that counts for a KEY. BAD; NONE.", () -> {
            LevelCellars x = new LevelCellars();
            int[] odd = {MIN, -1, 3, MAX};
            for (int key : odd) {
                due("key " + key, x.why(key), BAD);
            }
            for (int key = 0; key < 3; key++) {
                due("no TEXT of " + key, x.why(key), NONE);
            }
            text(x, "fine 1");
            due("high", x.why(0), NONE);
            due("fee", x.why(1), NONE);
            due("fine", x.why(2), 0);
            text(x, "high 1");
            text(x, "fee 1");
            text(x, "fine 2");
            due("high", x.why(0), 1);
            due("fee", x.why(1), 2);
            due("fine, the last one", x.why(2), 3);
            text(x, "fee )");
            due("not by a FAULT", x.why(1), 2);
            for (int key : odd) {
                due("key " + key, x.why(key), BAD);
            }
        });
        says(30, "Of a KEY that TEXT counts that was told last.", () -> {
            LevelCellars x = new LevelCellars();
            for (int i = 0; i < 14; i++) {
                text(x, "fee 1");
                due("text " + i, x.why(1), i);
            }
            text(x, "fee 2");
            due("not by what is refused", x.why(1), 13);
        });
    }
}
