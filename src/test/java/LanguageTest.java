import java.io.IOException;
import java.lang.reflect.Constructor;
import java.lang.reflect.Field;
import java.lang.reflect.Method;
import java.lang.reflect.Modifier;
import java.nio.file.Files;
import java.nio.file.Path;
import java.util.ArrayList;
import java.util.Arrays;
import java.util.HashSet;
import java.util.List;
import java.util.Set;
import java.util.regex.Matcher;
import java.util.regex.Pattern;

/** What can be seen by a program of the rules of ../shared/LANGUAGE.md; to be run from the project's folder. */
public final class LanguageTest {
    private static final String SOURCE = "src/main/java/LevelCellars.java";
    private static final String FACE = "cellar:3 told:2 takes:2 as:2 turns:2 set:3 pipe:3 pipeOf:2 cork:2 thirst:1 deal:1 "
        + "seed:1 hours:1 town:1 behind:2 taste:3 rests:0 corks:3 dig:2 loser:2 tap:2 dug:3 fee:0 fine:1 feed:3 trim:1 "
        + "text:0 textTold:2 why:1 sheet:3 mark:3 pour:1 reads:1 copy:5 lay:3 ask:2 item:2 rest:2 tell:1 check:1 keep:0 "
        + "back:0 count:1";
    private static final String CONSTANTS = "BAD NO FULL NONE NOTHING KIND INDEX SIZE";
    private static final String[] RULED_OUT = {"throw", "throws", "try", "catch", "finally", "synchronized", "assert",
        "double", "float", "import", "package", "protected", "native", "volatile", "strictfp", "transient", "Object",
        "Exception", "hashCode", "getClass", "Exact", "System\\.out", "System\\.nano", "System\\.current", "Random",
        "Thread", "goto", "var", "yield", "record", "->", "::"};

    private static int wrong = 0;
    private static int looked = 0;

    private static void holds(String what, boolean is) {
        looked++;
        if (!is) {
            wrong++;
            System.out.println("does not hold: " + what);
        }
    }

    private static String withoutCommentsAndTexts(String source) {
        return source.replaceAll("(?s)/\\*.*?\\*/", "").replaceAll("//[^\n]*", "")
            .replaceAll("\"(\\\\.|[^\"\\\\])*\"", "\"\"").replaceAll("'(\\\\.|[^'\\\\])'", "' '");
    }

    private static void words(String code) {
        for (String word : RULED_OUT) {
            boolean letters = Character.isLetter(word.charAt(0));
            Matcher m = Pattern.compile(letters ? "\\b" + word + "\\b" : word).matcher(code);
            holds("no " + word + " in the class", !m.find());
        }
        holds("no static block", !Pattern.compile("static\\s*\\{").matcher(code).find());
        holds("no texts joined by +", !Pattern.compile("\"\"\\s*\\+|\\+\\s*\"\"").matcher(code).find());
    }

    private static void lengths(String source) {
        Pattern head = Pattern.compile("^( {4}| {8})(public |private )?(static )?[A-Za-z\\[\\]]+ ?\\w*\\([^;]*\\) \\{$");
        String[] lines = source.split("\n");
        for (int i = 0; i < lines.length; i++) {
            Matcher m = head.matcher(lines[i]);
            if (m.matches()) {
                int end = i;
                while (!lines[end].equals(m.group(1) + "}")) {
                    end++;
                }
                holds(lines[i].trim() + " is at most 60 lines long", end - i + 1 <= 60);
            }
            holds("line " + (i + 1) + " is at most 130 signs long", lines[i].length() <= 130);
        }
    }

    private static void face() {
        Class<?> c = LevelCellars.class;
        holds("public and final", Modifier.isPublic(c.getModifiers()) && Modifier.isFinal(c.getModifiers()));
        List<String> methods = new ArrayList<>();
        for (Method m : c.getDeclaredMethods()) {
            if (!m.isSynthetic() && !Modifier.isPrivate(m.getModifiers())) {
                methods.add(m.getName() + ":" + m.getParameterCount());
                holds(m + " is of ints", Modifier.isPublic(m.getModifiers()) && !Modifier.isStatic(m.getModifiers())
                    && m.getReturnType() == int.class && Arrays.stream(m.getParameterTypes()).allMatch(t -> t == int.class));
            }
        }
        holds("the methods of the document", new HashSet<>(methods).equals(Set.of(FACE.split(" "))));
        holds("each once", methods.size() == FACE.split(" ").length);
        Set<String> constants = new HashSet<>();
        for (Field f : c.getDeclaredFields()) {
            if (!Modifier.isPrivate(f.getModifiers())) {
                constants.add(f.getName());
                holds(f + " is a constant", f.toString().startsWith("public static final int "));
            }
        }
        holds("the constants of the document", constants.equals(Set.of(CONSTANTS.split(" "))));
        Constructor<?>[] made = c.getDeclaredConstructors();
        holds("one constructor", made.length == 1 && Modifier.isPublic(made[0].getModifiers()) && made[0].getParameterCount() == 0);
    }

    private static void members() {
        List<Class<?>> classes = new ArrayList<>(List.of(LevelCellars.class.getDeclaredClasses()));
        holds("at most twelve classes", classes.size() + 1 <= 12);
        Set<String> names = new HashSet<>();
        for (String m : FACE.split(" ")) {
            names.add(m.substring(0, m.indexOf(':')));
        }
        for (Class<?> c : classes) {
            holds(c + " is static", Modifier.isStatic(c.getModifiers()) && !Modifier.isPublic(c.getModifiers()));
        }
        classes.add(LevelCellars.class);
        for (Class<?> c : classes) {
            int fields = 0;
            for (Field f : c.getDeclaredFields()) {
                boolean isStatic = Modifier.isStatic(f.getModifiers());
                fields += isStatic ? 0 : 1;
                holds(f + " is final, if it is static", !isStatic || Modifier.isFinal(f.getModifiers()));
            }
            holds(c + " has at most twenty fields", fields <= 20);
            for (Method m : c.getDeclaredMethods()) {
                boolean ofTheFace = c == LevelCellars.class && Modifier.isPublic(m.getModifiers());
                holds(m + " bears no name of the face", ofTheFace || !names.contains(m.getName()));
                holds(m + " takes at most seven", m.getParameterCount() <= 7);
            }
        }
    }

    public static void main(String[] args) throws IOException {
        String source = Files.readString(Path.of(SOURCE));
        holds("signs 1 to 127 alone", source.chars().allMatch(s -> s > 0 && s < 128));
        words(withoutCommentsAndTexts(source));
        lengths(source);
        face();
        members();
        System.out.println(looked + " things looked at, " + wrong + " do not hold");
        if (wrong != 0) {
            System.exit(1);
        }
    }
}
