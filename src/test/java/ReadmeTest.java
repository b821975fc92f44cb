import java.io.ByteArrayOutputStream;
import java.io.IOException;
import java.net.URL;
import java.net.URLClassLoader;
import java.nio.file.Files;
import java.nio.file.Path;
import java.util.ArrayList;
import java.util.HashMap;
import java.util.List;
import java.util.Map;
import java.util.Set;
import java.util.TreeSet;
import java.util.function.BiConsumer;
import java.util.regex.Matcher;
import java.util.regex.Pattern;
import java.util.stream.Collectors;
import java.util.stream.Stream;
import javax.tools.JavaCompiler;
import javax.tools.ToolProvider;

/** README.md: its pieces of Java are compiled as they stand there, and each call must give the answer beside it. */
public final class ReadmeTest {
    private static final Path README = Path.of("README.md");
    private static final Path DOC = Path.of("../shared/DOC.md");
    private static final Path TESTS = Path.of("src/test/java");
    private static final Path CI = Path.of(".ci/run");
    private static final String CLASS_NAME = "ReadmeExamples";

    private static final String NEW_OBJECT = "SameAgain x = .*;";
    /** An answer may be told once more: by its constant, by its sign, or by its bits. */
    private static final Pattern CALL = Pattern.compile("((?:x\\.|tell\\(x).*\\)); +// (-?[0-9]+)(?:, ([^:]+))?(?:: .+)?");
    private static final Pattern FACE_METHOD = Pattern.compile("public int (\\w+)\\((.*)\\);");
    private static final Pattern PROMISE = Pattern.compile("`int (\\w+)\\([^`]*`: (.*)");
    private static final Pattern CONSTANT = Pattern.compile("\\b(NONE|UNKNOWN|OUTSIDE|STATE|FULL|NO)\\b");
    private static final Map<String, Integer> NUMBERS = Map.of("NONE", SameAgain.NONE, "UNKNOWN", SameAgain.UNKNOWN,
        "OUTSIDE", SameAgain.OUTSIDE, "STATE", SameAgain.STATE, "FULL", SameAgain.FULL, "NO", SameAgain.NO);

    private static final Due due = new Due();

    /** A call that the page shows, and what stands beside it. */
    private record Shown(int lineOfPage, String call, int answer, String toldAgain) {
        @Override
        public String toString() {
            return "README.md:" + lineOfPage + ": " + call;
        }
    }

    public static void main(String[] args) throws IOException, ReflectiveOperationException {
        List<String> page = Files.readAllLines(README);
        Pieces pieces = new Pieces();
        pieces.read(page);
        Map<Integer, Integer> answers = answersOf(pieces.source());
        for (int i = 0; i < pieces.shown.size(); i++) {
            answerIsAsShown(pieces.shown.get(i), answers.get(i));
        }
        String doc = Files.readString(DOC);
        eachCallIsShown(doc, pieces.shown);
        eachCallIsInTheTable(doc, page);
        refusalsHaveTheirNumbers(page);
        testsAreNamed(String.join("\n", page));
        due.end();
    }

    /** The page's pieces of Java as one source: methods stand alone, the rest in runs of one object each. */
    private static final class Pieces {
        private final List<Shown> shown = new ArrayList<>();
        private final StringBuilder methods = new StringBuilder();
        private final StringBuilder runs = new StringBuilder();
        private boolean inMethods = false;
        private int runCount = 0;

        void read(List<String> page) {
            boolean inside = false;
            for (int i = 0; i < page.size(); i++) {
                String line = page.get(i);
                if (line.startsWith("```")) {
                    inside = line.equals("```java");
                    due.holds("README.md:" + (i + 1) + " is no piece of Java", inside || line.equals("```"));
                    inMethods = inside && i + 1 < page.size() && page.get(i + 1).startsWith("static ");
                } else if (inside) {
                    take(i + 1, line);
                }
            }
            due.holds("README.md: the last piece has no end", !inside);
        }

        private void take(int lineOfPage, String line) {
            if (inMethods) {
                methods.append(line).append('\n');
                return;
            }
            Matcher call = CALL.matcher(line);
            if (line.matches(NEW_OBJECT)) {
                runs.append(runCount > 0 ? "}\n" : "").append("{ ").append(line).append('\n');
                runCount++;
            } else if (call.matches()) {
                runs.append("answer.accept(").append(shown.size()).append(", ").append(call.group(1)).append(");\n");
                shown.add(new Shown(lineOfPage, call.group(1), Integer.parseInt(call.group(2)), call.group(3)));
            } else {
                due.holds("README.md:" + lineOfPage + " has no answer beside it: " + line, line.isBlank());
            }
        }

        String source() {
            return "public final class " + CLASS_NAME + " {\n" + methods
                + "public static void run(java.util.function.BiConsumer<Integer, Integer> answer) {\n"
                + runs + (runCount > 0 ? "}\n" : "") + "}\n}\n";
        }
    }

    private static Map<Integer, Integer> answersOf(String source) throws IOException, ReflectiveOperationException {
        Map<Integer, Integer> answers = new HashMap<>();
        BiConsumer<Integer, Integer> answer = answers::put;
        Path directory = Files.createTempDirectory("readme");
        try {
            if (compiles(source, directory)) {
                try (URLClassLoader loader = new URLClassLoader(new URL[] {directory.toUri().toURL()})) {
                    loader.loadClass(CLASS_NAME).getMethod("run", BiConsumer.class).invoke(null, answer);
                }
            }
        } finally {
            remove(directory);
        }
        return answers;
    }

    private static boolean compiles(String source, Path directory) throws IOException {
        Path file = Files.writeString(directory.resolve(CLASS_NAME + ".java"), source);
        JavaCompiler compiler = ToolProvider.getSystemJavaCompiler();
        if (compiler == null) {
            due.holds("there is no javac in this Java", false);
            return false;
        }
        ByteArrayOutputStream faults = new ByteArrayOutputStream();
        int code = compiler.run(null, faults, faults, "-cp", System.getProperty("java.class.path"),
            "-d", directory.toString(), file.toString());
        due.holds("README.md does not compile: " + faults, code == 0);
        return code == 0;
    }

    private static void remove(Path directory) throws IOException {
        for (Path file : filesIn(directory)) {
            Files.delete(file);
        }
        Files.delete(directory);
    }

    private static List<Path> filesIn(Path directory) throws IOException {
        try (Stream<Path> files = Files.list(directory)) {
            return files.sorted().collect(Collectors.toList());
        }
    }

    private static void answerIsAsShown(Shown shown, Integer got) {
        due.holds(shown + " was not reached", got != null);
        if (got != null) {
            due.is(shown.toString(), got, shown.answer);
        }
        if (shown.toldAgain != null) {
            due.holds(shown + ": " + shown.answer + " is not " + shown.toldAgain, isTheSame(shown.answer, shown.toldAgain));
        }
    }

    private static boolean isTheSame(int answer, String toldAgain) {
        if (NUMBERS.containsKey(toldAgain)) {
            return NUMBERS.get(toldAgain) == answer;
        }
        if (toldAgain.matches("'.'")) {
            return toldAgain.charAt(1) == answer;
        }
        if (!toldAgain.matches("bits( [0-9]+)+")) {
            return false;
        }
        int bits = 0;
        for (String bit : toldAgain.substring(5).split(" ")) {
            bits |= 1 << Integer.parseInt(bit);
        }
        return bits == answer;
    }

    private static void eachCallIsShown(String doc, List<Shown> shown) {
        Matcher method = FACE_METHOD.matcher(doc);
        int count = 0;
        while (method.find()) {
            String begin = "x." + method.group(1) + "(";
            due.holds("README.md shows no " + begin, shown.stream().anyMatch(s -> s.call.startsWith(begin)));
            count++;
        }
        due.is("calls of the document's face", count, 23);
    }

    /** The table has each call with the document's parameters, in its order, and what it may answer besides. */
    private static void eachCallIsInTheTable(String doc, List<String> page) {
        List<String> want = new ArrayList<>();
        Matcher method = FACE_METHOD.matcher(doc);
        while (method.find()) {
            want.add("`" + method.group(1) + "(" + method.group(2).replace("int ", "") + ")`");
        }
        Map<String, Set<String>> constants = new HashMap<>();
        Matcher promise = PROMISE.matcher(doc);
        while (promise.find()) {
            constants.put(promise.group(1), constantsIn(promise.group(2)));
        }
        List<String> got = new ArrayList<>();
        for (String line : page) {
            String[] cells = line.split("\\|", -1);
            if (cells.length == 5 && cells[1].trim().matches("`\\w+\\(.*\\)`")) {
                String call = cells[1].trim();
                got.add(call);
                Set<String> besides = constants.get(call.substring(1, call.indexOf('(')));
                due.holds(call + " may answer " + besides, constantsIn(cells[3]).equals(besides));
            }
        }
        due.holds("the table's calls are " + got + ", due is " + want, got.equals(want));
    }

    private static Set<String> constantsIn(String text) {
        Set<String> found = new TreeSet<>();
        Matcher constant = CONSTANT.matcher(text);
        while (constant.find()) {
            found.add(constant.group());
        }
        return found;
    }

    private static void refusalsHaveTheirNumbers(List<String> page) {
        Set<String> left = new TreeSet<>(NUMBERS.keySet());
        for (String line : page) {
            Matcher row = Pattern.compile("(?:\\| )?`([A-Z]+)`(?: +\\| | \\()(-[0-9]).*").matcher(line);
            if (row.matches()) {
                due.is("README.md: " + row.group(1), Integer.parseInt(row.group(2)), NUMBERS.getOrDefault(row.group(1), 0));
                left.remove(row.group(1));
            }
        }
        due.holds("README.md does not say the numbers of " + left, left.isEmpty());
    }

    private static void testsAreNamed(String page) throws IOException {
        for (Path file : filesIn(TESTS)) {
            String name = file.getFileName().toString().replace(".java", "");
            due.holds("README.md does not name " + name, !name.endsWith("Test") || page.contains("`" + name + "`"));
        }
        Matcher named = Pattern.compile("`(\\w+Test)`").matcher(page);
        while (named.find()) {
            due.holds("there is no " + named.group(1), Files.exists(TESTS.resolve(named.group(1) + ".java")));
        }
        due.holds("README.md does not name " + CI, page.contains("\n    " + CI + "\n") && Files.isExecutable(CI));
    }
}
