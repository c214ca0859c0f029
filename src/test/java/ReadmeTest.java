import java.io.File;
import java.io.IOException;
import java.lang.reflect.Field;
import java.lang.reflect.Method;
import java.lang.reflect.Modifier;
import java.nio.file.Files;
import java.nio.file.Path;
import java.util.ArrayList;
import java.util.Comparator;
import java.util.List;
import java.util.Set;
import java.util.TreeSet;
import java.util.regex.Matcher;
import java.util.regex.Pattern;
import java.util.stream.Stream;

/** That what README.md says of the use of the class and of its tests works as it stands; to be run from the project's folder. */
public final class ReadmeTest {
    private static final Path EXAMPLE = Path.of("src/example/java/HillTown.java");
    private static final String ALL_TESTS = ".ci/run";

    private static int wrong = 0;
    private static int looked = 0;

    private static void holds(String what, boolean is) {
        looked++;
        if (!is) {
            wrong++;
            System.out.println("does not hold: " + what);
        }
    }

    /** What stands between lines ```sort and ```, one by one. */
    private static List<String> blocks(String readme, String sort) {
        List<String> found = new ArrayList<>();
        Matcher m = Pattern.compile("(?ms)^```" + sort + "\n(.*?)^```$").matcher(readme);
        while (m.find()) {
            found.add(m.group(1));
        }
        return found;
    }

    /** The words `so` in the first column of the table under a heading. */
    private static Set<String> firstColumn(String readme, String heading) {
        Set<String> words = new TreeSet<>();
        int at = readme.indexOf("| " + heading + " |");
        for (String line : readme.substring(Math.max(0, at)).split("\n")) {
            if (!line.startsWith("|")) {
                break;
            }
            Matcher m = Pattern.compile("`(\\w+)`").matcher(line.split("\\|")[1]);
            while (m.find()) {
                words.add(m.group(1));
            }
        }
        return words;
    }

    private static Set<String> publicMethods() {
        Set<String> names = new TreeSet<>();
        for (Method m : LevelCellars.class.getDeclaredMethods()) {
            if (Modifier.isPublic(m.getModifiers())) {
                names.add(m.getName());
            }
        }
        return names;
    }

    private static Set<String> publicConstants() {
        Set<String> names = new TreeSet<>();
        for (Field f : LevelCellars.class.getDeclaredFields()) {
            if (Modifier.isPublic(f.getModifiers())) {
                names.add(f.getName());
            }
        }
        return names;
    }

    private static Set<String> projectTests() throws IOException {
        Set<String> names = new TreeSet<>();
        try (Stream<Path> files = Files.list(Path.of("src/test/java"))) {
            files.forEach(f -> names.add(f.getFileName().toString().replace(".java", "")));
        }
        return names;
    }

    /** What commands print, run one behind the other until one fails; their folders are made in a folder of their own. */
    private static String printed(String commands, Path room) throws IOException, InterruptedException {
        File out = room.resolve("printed").toFile();
        ProcessBuilder shell = new ProcessBuilder("sh", "-e", "-c", commands);
        shell.environment().put("TMPDIR", room.toString());
        shell.redirectErrorStream(true).redirectOutput(out);
        int code = shell.start().waitFor();
        String text = Files.readString(out.toPath());
        holds("exit code 0 of\n" + commands + text, code == 0);
        return text;
    }

    private static void commands(String readme, Path room) throws IOException, InterruptedException {
        List<String> shell = blocks(readme, "sh");
        List<String> shown = blocks(readme, "text");
        holds("three rows of commands, one of what is printed", shell.size() == 3 && shown.size() == 1);
        boolean all = false;
        for (int i = 0; i < shell.size(); i++) {
            if (shell.get(i).trim().equals(ALL_TESTS)) {
                // It would run this test again, and so on.
                all = true;
                holds(ALL_TESTS + " can be run", Files.isExecutable(Path.of(ALL_TESTS)));
            } else {
                String text = printed(shell.get(i), room);
                holds("what the example prints, which is\n" + text, i > 0 || text.equals(shown.get(0)));
            }
        }
        holds("how all tests are run", all);
    }

    private static void tellsAll(String readme) throws IOException {
        List<String> programs = blocks(readme, "java");
        holds("the example stands in the page as in " + EXAMPLE,
            programs.size() == 1 && programs.get(0).equals(Files.readString(EXAMPLE)));
        holds("each call is named: " + publicMethods(), firstColumn(readme, "calls").equals(publicMethods()));
        holds("each constant is named: " + publicConstants(), firstColumn(readme, "constant").equals(publicConstants()));
        holds("each test is named: " + projectTests(), firstColumn(readme, "test").equals(projectTests()));
        Matcher paths = Pattern.compile("`((\\.\\./shared|src)/[\\w/.]+)`").matcher(readme);
        while (paths.find()) {
            holds(paths.group(1) + " is there", Files.exists(Path.of(paths.group(1))));
        }
    }

    private static void remove(Path room) throws IOException {
        try (Stream<Path> all = Files.walk(room)) {
            all.sorted(Comparator.reverseOrder()).forEach(p -> p.toFile().delete());
        }
    }

    public static void main(String[] args) throws IOException, InterruptedException {
        String readme = Files.readString(Path.of("README.md"));
        tellsAll(readme);
        Path room = Files.createTempDirectory("readme");
        try {
            commands(readme, room);
        } finally {
            remove(room);
        }
        System.out.println(looked + " things looked at, " + wrong + " not as due");
        if (wrong != 0) {
            System.exit(1);
        }
    }
}
