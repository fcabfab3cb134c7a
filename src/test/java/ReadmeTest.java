import java.io.IOException;
import java.lang.reflect.Method;
import java.lang.reflect.Modifier;
import java.net.URL;
import java.net.URLClassLoader;
import java.nio.file.Files;
import java.nio.file.Path;
import java.util.ArrayList;
import java.util.List;
import java.util.regex.Matcher;
import java.util.regex.Pattern;
import java.util.stream.Stream;
import javax.tools.ToolProvider;

/** What README.md shows of the class's use is Java, and answers as README.md says: run from the project's folder. */
public final class ReadmeTest {
    private static final Path README = Path.of("README.md");
    private static final Path TESTS = Path.of("src/test/java");
    private static final Path FILE = Path.of("src/main/java/DinnerPleas.java");
    private static final int MOST_CALLS = 512;
    private static final Pattern ANSWERED = Pattern.compile("(x\\.\\w+\\(.*\\));\\s+// (-?\\d+)(:.*)?");
    private static final Checks c = new Checks();

    public static void main(String[] args) throws Exception {
        List<String> page = Files.readAllLines(README);
        showsEveryCall(page);
        answersAsShown(page);
        seesWrongAnswers();
        namesEveryTest(page);
        namesNumbersOfBad(page);
        c.end();
    }

    private static void showsEveryCall(List<String> page) {
        c.begin("README.md shows every call");
        String code = String.join("\n", blocks(page, "java"));
        for (Method m : DinnerPleas.class.getDeclaredMethods()) {
            if (Modifier.isPublic(m.getModifiers())) {
                c.holds(m.getName(), code.contains("x." + m.getName() + "("));
            }
        }
    }

    private static void answersAsShown(List<String> page) throws Exception {
        c.begin("README.md");
        List<String> code = blocks(page, "java");
        for (String line : code) {
            c.holds(line + " has its answer beside it", !line.startsWith("x.") || ANSWERED.matcher(line).matches());
        }
        long calls = code.stream().filter(line -> ANSWERED.matcher(line).matches()).count();
        c.holds("calls and their answers are shown", calls > 0);
        c.holds("no object is asked more often than it answers for", calls + typed(code) <= MOST_CALLS);
        for (String wrong : notAsShown(code)) {
            c.holds(wrong, false);
        }
    }

    /** A test that can not fail shows nothing: a page with wrong answers must be found out. */
    private static void seesWrongAnswers() throws Exception {
        c.begin("a page that tells wrong answers");
        List<String> wrong = notAsShown(List.of("DinnerPleas x = new DinnerPleas();",
            "x.dish(0, 0, 4, 2, 0);  // 7: not so", "x.count(0); // 1", "x.undo();  // 3"));
        c.holds("found are " + wrong, wrong.equals(List.of("x.dish(0, 0, 4, 2, 0) answered 0, shown is 7",
            "x.undo() answered -3, shown is 3")));
    }

    private static List<String> notAsShown(List<String> code) throws Exception {
        long[] answers = run(code);
        List<String> wrong = new ArrayList<>();
        int i = 0;
        for (String line : code) {
            Matcher m = ANSWERED.matcher(line);
            if (m.matches() && i < answers.length) {
                long shown = Long.parseLong(m.group(2));
                if (answers[i] != shown) {
                    wrong.add(m.group(1) + " answered " + answers[i] + ", shown is " + shown);
                }
                i++;
            }
        }
        return wrong;
    }

    private static void namesEveryTest(List<String> page) throws IOException {
        c.begin("README.md says how to run the tests");
        String text = String.join("\n", page);
        c.holds(".ci/run", blocks(page, "sh").contains(".ci/run"));
        c.holds("../shared/tests", text.contains("`../shared/tests`"));
        try (Stream<Path> files = Files.list(TESTS)) {
            for (Path file : files.sorted().toList()) {
                String name = file.getFileName().toString();
                c.holds(name, !name.endsWith("Test.java") || text.contains(name + "`"));
            }
        }
        for (String line : blocks(page, "sh")) {
            for (String word : line.split(" ")) {
                c.holds(word + " is there", !word.startsWith("src/") || Files.exists(Path.of(word)));
            }
        }
    }

    /** Which number stands for BAD, call by call, as the page tells it. */
    private static void namesNumbersOfBad(List<String> page) {
        c.begin("README.md on what is refused");
        String text = String.join(" ", page);
        c.holds("-10", text.contains("-10 of `book`, `did`, `pardon`, `cancel`;"));
        c.holds("-1000", text.contains("-1000 of `lean`, `comes`, `play`, `before`;"));
        c.holds("-1", text.contains("-1 of `status`."));
        DinnerPleas x = new DinnerPleas();
        long[] ten = {x.book(5, 0, 0), x.did(2, 0), x.pardon(2, 0), x.cancel(-2)};
        long[] thousand = {x.lean(31), x.comes(2), x.play(0, 0), x.before(2)};
        long[] others = {x.court(10), x.dish(6, 0, 1, 0, 0), x.type(128), x.serve(0, 0), x.of(0, 0), x.course(0, 0),
            x.menu(0), x.first(0, 0), x.undoes(2), x.reading(2, 0), x.tells(2), x.sure(2), x.burnt(2, 0, 0),
            x.dinners(-1, 0), x.part(2), x.image(2), x.from(2), x.count(6)};
        same("-10", ten, -10);
        same("-1000", thousand, -1000);
        same("BAD", others, DinnerPleas.BAD);
        c.due("status(3)", x.status(3), -1);
        c.due("status(0)", x.status(0), ten.length + thousand.length + others.length + 1);
    }

    private static void same(String what, long[] answers, long due) {
        for (int i = 0; i < answers.length; i++) {
            c.due("number " + i + " of those that answer " + what, answers[i], due);
        }
    }

    /** The lines of all blocks of this language, in their order. */
    private static List<String> blocks(List<String> page, String language) {
        List<String> lines = new ArrayList<>();
        boolean inside = false;
        for (String line : page) {
            if (line.startsWith("```")) {
                inside = line.equals("```" + language);
            } else if (inside) {
                lines.add(line);
            }
        }
        return lines;
    }

    private static int typed(List<String> code) {
        int bytes = 0;
        Matcher m = Pattern.compile("\"([^\"]*)\"\\.toCharArray\\(\\)").matcher(String.join("\n", code));
        while (m.find()) {
            bytes += m.group(1).length();
        }
        return bytes;
    }

    /** Compiles the lines into a method and runs it: the answers of the calls that have one beside them. */
    private static long[] run(List<String> code) throws Exception {
        Path place = Files.createTempDirectory("readme");
        try {
            Path source = Files.writeString(place.resolve("Shown.java"), sourceOf(code));
            int failed = ToolProvider.getSystemJavaCompiler().run(null, null, null, "-proc:none", "-d",
                place.toString(), source.toString(), FILE.toString());
            c.due("what javac says of it", failed, 0);
            return failed == 0 ? answersOf(place) : new long[0];
        } finally {
            remove(place);
        }
    }

    private static String sourceOf(List<String> code) {
        StringBuilder lines = new StringBuilder();
        int calls = 0;
        for (String line : code) {
            Matcher m = ANSWERED.matcher(line);
            lines.append(m.matches() ? "answers[" + calls++ + "] = " + m.group(1) + ";" : line).append('\n');
        }
        return "public final class Shown {\npublic static long[] answers() {\n"
            + "long[] answers = new long[" + calls + "];\n" + lines + "return answers;\n}\n}\n";
    }

    private static long[] answersOf(Path place) throws Exception {
        try (URLClassLoader loader = new URLClassLoader(new URL[] {place.toUri().toURL()})) {
            return (long[]) loader.loadClass("Shown").getMethod("answers").invoke(null);
        }
    }

    private static void remove(Path place) throws IOException {
        try (Stream<Path> files = Files.list(place)) {
            for (Path file : files.toList()) {
                Files.delete(file);
            }
        }
        Files.delete(place);
    }
}
