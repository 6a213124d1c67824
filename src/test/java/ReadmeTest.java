import java.io.File;
import java.lang.reflect.InvocationTargetException;
import java.lang.reflect.Method;
import java.net.URL;
import java.net.URLClassLoader;
import java.nio.charset.StandardCharsets;
import java.nio.file.Files;
import java.nio.file.Path;
import java.util.LinkedHashMap;
import java.util.List;
import java.util.Map;
import java.util.TreeSet;
import java.util.function.IntUnaryOperator;
import java.util.regex.Matcher;
import java.util.regex.Pattern;
import javax.tools.JavaCompiler;
import javax.tools.ToolProvider;

/** What README.md says is so: its examples answer as told, its tables name what the document names. */
public final class ReadmeTest {
    private static final List<String> CODES = List.of("NONE", "BAD", "REFUSED", "NOTHING");
    private static final Map<String, IntUnaryOperator> CALLS_WITH_BOUNDS = new LinkedHashMap<>();

    public static void main(String[] args) throws Exception {
        Path root = Path.of(args.length > 0 ? args[0] : ".");
        String readme = Files.readString(root.resolve("README.md"), StandardCharsets.UTF_8);
        examplesAnswerAsTold(readme);
        codesHaveTheirNumbers(readme);
        boundsAreAsTold(readme);
        reasonsAreThere(readme);
        testsAreNamed(readme, root.resolve("src/test/java").toFile());
        errorsAreThoseOfTheDocument(readme, root.resolve("../shared/DOC.md"));
        Check.end();
    }

    /** Each block becomes a method in which a line with an answer behind it is looked at. */
    private static void examplesAnswerAsTold(String readme) throws Exception {
        StringBuilder source = new StringBuilder("public final class ReadmeExamples {\n");
        int blocks = 0;
        for (Matcher block = Pattern.compile("(?s)```java\n(.*?)```").matcher(readme); block.find();) {
            source.append("public static void example").append(blocks++).append("() {\n");
            for (String line : block.group(1).split("\n")) {
                Matcher told = Pattern.compile("(census\\.\\w+\\(.*?\\)); *// (-?\\d+): .*").matcher(line);
                source.append(told.matches() ? "due(\"README, " + told.group(1) + "\", " + told.group(1) + ", "
                        + told.group(2) + ");" : line).append('\n');
                Check.due("README, a line whose answer is not read: " + line,
                        line.contains("//") && !told.matches() ? 1 : 0, 0);
            }
            source.append("}\n");
        }
        source.append("private static void due(String call, long got, long want) {\n"
                + "if (got != want) throw new IllegalStateException(call + \" answered \" + got + \", due is \" + want);\n}\n}\n");
        Check.due("README, blocks of calls", blocks, 2);
        runExamples(source.toString());
    }

    private static void runExamples(String source) throws Exception {
        Path out = Files.createTempDirectory("readme");
        Path file = out.resolve("ReadmeExamples.java");
        Files.writeString(file, source, StandardCharsets.UTF_8);
        JavaCompiler compiler = ToolProvider.getSystemJavaCompiler();
        int answer = compiler.run(null, null, null, "-cp", System.getProperty("java.class.path"), "-d", out.toString(),
                file.toString());
        Check.due("README, the compiler on its examples", answer, 0);
        if (answer == 0) {
            try (URLClassLoader loader = new URLClassLoader(new URL[] {out.toUri().toURL()})) {
                for (Method example : loader.loadClass("ReadmeExamples").getMethods()) {
                    if (example.getName().startsWith("example")) {
                        runExample(example);
                    }
                }
            }
        }
        for (File made : out.toFile().listFiles()) {
            made.delete();
        }
        Files.delete(out);
    }

    private static void runExample(Method example) throws Exception {
        try {
            example.invoke(null);
        } catch (InvocationTargetException thrown) {
            Check.wrong(String.valueOf(thrown.getCause()));
        }
    }

    private static void codesHaveTheirNumbers(String readme) throws Exception {
        for (String code : CODES) {
            int number = BalconyCensus.class.getField(code).getInt(null);
            Check.due("README, number of " + code, readme.contains("| `" + code + "` | " + number + " | ") ? 1 : 0, 1);
        }
    }

    /** The rows of errors: a call, and its cells for NONE, BAD, REFUSED and NOTHING. */
    private static Map<String, String[]> rowsOfErrors(String readme) {
        Map<String, String[]> rows = new LinkedHashMap<>();
        Pattern row = Pattern.compile("(?m)^\\| `(\\w+)` \\|([^|\n]*)\\|([^|\n]*)\\|([^|\n]*)\\|([^|\n]*)\\|$");
        for (Matcher matcher = row.matcher(readme); matcher.find();) {
            String[] cells = new String[CODES.size()];
            for (int code = 0; code < cells.length; code++) {
                cells[code] = matcher.group(code + 2).trim();
            }
            rows.put(matcher.group(1), cells);
        }
        rows.remove("call");
        return rows;
    }

    private static void boundsAreAsTold(String readme) {
        fillCallsWithBounds();
        TreeSet<String> told = new TreeSet<>();
        rowsOfErrors(readme).forEach((call, cells) -> {
            for (int code = 0; code < cells.length; code++) {
                Matcher bounds = Pattern.compile("not from (\\d+) to (\\d+)").matcher(cells[code]);
                if (bounds.find() && CALLS_WITH_BOUNDS.containsKey(call)) {
                    told.add(call);
                    lookAtBounds(call, -1 - code, Integer.parseInt(bounds.group(1)), Integer.parseInt(bounds.group(2)));
                }
            }
        });
        Check.dueText("README, calls with bounds", told.toString(), new TreeSet<>(CALLS_WITH_BOUNDS.keySet()).toString());
    }

    private static void lookAtBounds(String call, int code, int first, int last) {
        IntUnaryOperator answerTo = CALLS_WITH_BOUNDS.get(call);
        for (int number = first - 1; number <= last + 1; number++) {
            boolean isOut = number < first || number > last;
            Check.due("README, " + call + " with " + number + " out of range",
                    answerTo.applyAsInt(number) == code ? 1 : 0, isOut ? 1 : 0);
        }
    }

    private static void fillCallsWithBounds() {
        CALLS_WITH_BOUNDS.put("append", number -> new BalconyCensus().append((char) number));
        CALLS_WITH_BOUNDS.put("plant", number -> new BalconyCensus().plant(0, number));
        CALLS_WITH_BOUNDS.put("bear", number -> new BalconyCensus().bear(0, number));
        CALLS_WITH_BOUNDS.put("hang", number -> new BalconyCensus().hang(0, 1, number));
        CALLS_WITH_BOUNDS.put("give", number -> new BalconyCensus().give(0, 1, number));
        CALLS_WITH_BOUNDS.put("reason", number -> new BalconyCensus().reason(number, false));
        CALLS_WITH_BOUNDS.put("balconyOf", number -> new BalconyCensus().balconyOf(0, number));
        CALLS_WITH_BOUNDS.put("catOf", number -> furnished().catOf(0, number));
        CALLS_WITH_BOUNDS.put("lineOf", number -> furnished().lineOf(0, number));
        CALLS_WITH_BOUNDS.put("wouldGrow", number -> new BalconyCensus().wouldGrow(number));
        CALLS_WITH_BOUNDS.put("kindest", number -> new BalconyCensus().kindest(number));
        CALLS_WITH_BOUNDS.put("worst", number -> new BalconyCensus().worst(number));
        CALLS_WITH_BOUNDS.put("account", number -> new BalconyCensus().account(number));
    }

    private static BalconyCensus furnished() {
        BalconyCensus x = new BalconyCensus();
        x.cat(3);
        x.hang(2, 8, 4);
        return x;
    }

    private static void reasonsAreThere(String readme) {
        StringBuilder reasons = new StringBuilder();
        for (Matcher row = Pattern.compile("(?m)^\\| (\\d+) \\| [^|\n]+ \\| [^|\n]+ \\|$").matcher(readme); row.find();) {
            reasons.append(row.group(1)).append(' ');
        }
        Check.dueText("README, reasons", reasons.toString(), "1 2 3 4 5 6 7 8 9 10 11 ");
    }

    private static void testsAreNamed(String readme, File folder) {
        TreeSet<String> named = new TreeSet<>();
        for (Matcher name = Pattern.compile("`(\\w+Test)`").matcher(readme); name.find();) {
            named.add(name.group(1));
        }
        TreeSet<String> there = new TreeSet<>();
        for (String name : folder.list()) {
            if (name.endsWith("Test.java")) {
                there.add(name.substring(0, name.length() - ".java".length()));
            }
        }
        Check.dueText("README, tests", named.toString(), there.toString());
    }

    private static void errorsAreThoseOfTheDocument(String readme, Path document) throws Exception {
        if (!Files.exists(document)) {
            System.out.println("the document is not there: the errors in README.md were not compared with it");
            return;
        }
        Map<String, String[]> rows = rowsOfErrors(readme);
        int end = readme.indexOf("The others return none:");
        String withoutErrors = end < 0 ? "" : readme.substring(end, readme.indexOf('.', end));
        Pattern promise = Pattern.compile("(?s)\n## Promise \\d+: \\w+\n+`\\w+ (\\w+)\\(.*?(?=\n## |$)");
        int promises = 0;
        for (Matcher matcher = promise.matcher(Files.readString(document, StandardCharsets.UTF_8)); matcher.find();) {
            promises++;
            lookAtErrors(matcher.group(1), matcher.group(), rows.remove(matcher.group(1)), withoutErrors);
        }
        Check.due("README, promises compared", promises, 41);
        Check.dueText("README, calls that the document does not name", rows.keySet().toString(), "[]");
    }

    private static void lookAtErrors(String call, String text, String[] cells, String withoutErrors) {
        boolean isAny = false;
        for (int code = 0; code < CODES.size(); code++) {
            boolean isNamed = Pattern.compile("\\b" + CODES.get(code) + "\\b").matcher(text).find();
            boolean isTold = cells != null && !cells[code].isEmpty();
            Check.due("README, " + CODES.get(code) + " of " + call, isTold ? 1 : 0, isNamed ? 1 : 0);
            isAny |= isNamed;
        }
        Check.due("README, " + call + " among those without errors", withoutErrors.contains("`" + call + "`") ? 1 : 0,
                isAny ? 0 : 1);
        Matcher reasons = Pattern.compile("REFUSED for ([\\d, or]+)\\.").matcher(text);
        if (reasons.find()) {
            Check.dueText("README, reasons of " + call, cells == null ? "" : cells[2],
                    reasons.group(1).replace(" or ", ", "));
        }
    }
}
