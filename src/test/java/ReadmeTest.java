import java.lang.reflect.InvocationTargetException;
import java.lang.reflect.Method;
import java.nio.charset.StandardCharsets;
import java.nio.file.Files;
import java.nio.file.Path;
import java.util.List;
import java.util.TreeSet;
import java.util.regex.Matcher;
import java.util.regex.Pattern;

/**
 * What README.md shows as an example holds: each line of its Java blocks is of one of the kinds below, and each call
 * answers what its comment says. All calls of the face are shown, with all that they throw, in the document's words.
 */
public final class ReadmeTest {
    private static final Path README = Path.of("README.md");
    private static final Path DOCUMENT = Path.of("../shared/DOC.md");
    private static final Pattern MADE = Pattern.compile("BiddenMoves game = new BiddenMoves\\(\\);");
    private static final Pattern TYPED =
            Pattern.compile("for \\(char c : \"([!-~]*)\"\\.toCharArray\\(\\)\\) game\\.append\\(c\\);");
    private static final Pattern CALLED =
            Pattern.compile("game\\.(\\w+)\\(([-0-9, ]*)\\); *// (throws \\w+|NONE|-?[0-9.]+)(?:: (.*))?");
    private static final Pattern PROMISED = Pattern.compile("## Promise \\d+: (\\w+).*");
    private static final Pattern THROWN = Pattern.compile("Throws `(\\w+)` if (.*)");

    private static final TreeSet<String> shown = new TreeSet<>();
    private static final TreeSet<String> said = new TreeSet<>();
    private static int lines = 0;
    private static int wrong = 0;

    private static void wrong(String what) {
        wrong++;
        System.out.println("README.md: " + what);
    }

    private static Method methodOf(String name) {
        for (Method method : BiddenMoves.class.getMethods()) {
            if (method.getName().equals(name) && method.getDeclaringClass() == BiddenMoves.class) return method;
        }
        return null;
    }

    private static Object[] numbers(String arguments) {
        if (arguments.isBlank()) return new Object[0];
        String[] parts = arguments.split(", ", -1);
        Object[] numbers = new Object[parts.length];
        for (int i = 0; i < parts.length; i++) numbers[i] = Integer.parseInt(parts[i]);
        return numbers;
    }

    private static String outcome(BiddenMoves game, Method method, Object[] arguments) throws ReflectiveOperationException {
        try {
            return String.valueOf(method.invoke(game, arguments));
        } catch (InvocationTargetException e) {
            // the exception's own class: what the machine throws has a class below or beside those of the document
            return "throws " + e.getCause().getClass().getSimpleName();
        }
    }

    private static void call(BiddenMoves game, String line, Matcher call) throws ReflectiveOperationException {
        String name = call.group(1);
        Method method = methodOf(name);
        Object[] arguments = numbers(call.group(2));
        if (game == null || method == null || method.getParameterCount() != arguments.length) {
            wrong("no such call: " + line);
            return;
        }
        String due = call.group(3).equals("NONE") ? String.valueOf(BiddenMoves.NONE) : call.group(3);
        String got = outcome(game, method, arguments);
        if (!got.equals(due)) wrong(line + " <- " + got);
        if (due.startsWith("throws ")) {
            shown.add(name + " " + due);
            said.add(name + " " + due + ": " + call.group(4));
        } else {
            shown.add(name);
            if (name.equals("bid") || name.equals("move")) shown.add(name + " " + due);
        }
    }

    /** Runs a line of a block and answers the object that the next line is to use. */
    private static BiddenMoves run(BiddenMoves game, String line) throws ReflectiveOperationException {
        lines++;
        if (MADE.matcher(line).matches()) return new BiddenMoves();
        Matcher typed = TYPED.matcher(line);
        if (typed.matches() && game != null) {
            for (char c : typed.group(1).toCharArray()) game.append(c);
            return game;
        }
        Matcher called = CALLED.matcher(line);
        if (called.matches()) {
            call(game, line, called);
        } else {
            wrong("neither an object nor a call with its answer: " + line);
        }
        return game;
    }

    private static void runBlocks() throws Exception {
        boolean inside = false;
        BiddenMoves game = null;
        for (String line : Files.readAllLines(README, StandardCharsets.UTF_8)) {
            if (line.startsWith("```")) {
                inside = line.equals("```java");
                game = null;
            } else if (inside && !line.isBlank()) {
                game = run(game, line);
            }
        }
    }

    private static void need(String what) {
        if (!shown.contains(what)) wrong("no example of: " + what);
    }

    private static void needFace() {
        for (Method method : BiddenMoves.class.getMethods()) {
            if (method.getDeclaringClass() != BiddenMoves.class) continue;
            need(method.getName());
            for (Class<?> thrown : method.getExceptionTypes()) {
                need(method.getName() + " throws " + thrown.getSimpleName());
            }
        }
        for (int answer : new int[] {1, 2, 3, 4, 10, 11}) need("bid " + answer);
        for (int answer : new int[] {1, 2, 3, 10, 11}) need("move " + answer);
    }

    /** What is said of an exception is what the document says. */
    private static void needDocumentsWords() throws Exception {
        TreeSet<String> due = new TreeSet<>();
        String name = "";
        List<String> document = Files.readAllLines(DOCUMENT, StandardCharsets.UTF_8);
        for (String line : document) {
            Matcher promised = PROMISED.matcher(line);
            if (promised.matches()) name = promised.group(1);
            Matcher thrown = THROWN.matcher(line);
            if (thrown.matches()) due.add(name + " throws " + thrown.group(1) + ": " + thrown.group(2));
        }
        for (String clause : due) if (!said.contains(clause)) wrong("does not say: " + clause);
        for (String clause : said) if (!due.contains(clause)) wrong("is not the document's: " + clause);
    }

    public static void main(String[] args) throws Exception {
        runBlocks();
        needFace();
        needDocumentsWords();
        System.out.println(lines + " lines of README.md's examples, " + wrong + " wrong");
        if (wrong != 0) System.exit(1);
    }
}
