import java.lang.reflect.InvocationTargetException;
import java.lang.reflect.Method;
import java.lang.reflect.Modifier;
import java.nio.charset.StandardCharsets;
import java.nio.file.Files;
import java.nio.file.Path;
import java.util.ArrayList;
import java.util.Comparator;
import java.util.LinkedHashMap;
import java.util.List;
import java.util.Map;
import java.util.regex.Matcher;
import java.util.regex.Pattern;

/**
 * The document sentence by sentence: each of the classes named here holds a test for each sentence of its part,
 * and no sentence of the terms and of the promises is without one.
 */
public final class SentencesTest {
    private static final Class<?>[] PARTS = {SentencesOfTerms.class, SentencesOfTexts.class, SentencesOfReasons.class,
        SentencesOfChanges.class, SentencesOfNumbers.class, SentencesOfCounts.class, SentencesOfMemory.class};

    public static void main(String[] args) throws Exception {
        for (Class<?> part : PARTS) {
            runTestsOf(part);
        }
        Check.endSentence();
        compareWithDocument(Path.of(args.length > 0 ? args[0] : ".", "../shared/DOC.md"));
        Check.end();
    }

    /** Each method without parameters is a test, so that none is forgotten. */
    private static void runTestsOf(Class<?> part) throws Exception {
        List<Method> tests = new ArrayList<>();
        for (Method method : part.getDeclaredMethods()) {
            if (method.getParameterCount() == 0 && !Modifier.isPrivate(method.getModifiers()) && !method.isSynthetic()) {
                tests.add(method);
            }
        }
        tests.sort(Comparator.comparing(Method::getName));
        for (Method test : tests) {
            int before = Check.SENTENCES.size();
            try {
                test.invoke(null);
            } catch (InvocationTargetException thrown) {
                Check.wrong(part.getName() + "." + test.getName() + " threw " + thrown.getCause());
            }
            if (Check.SENTENCES.size() == before) {
                Check.wrong(part.getName() + "." + test.getName() + " names no sentence");
            }
        }
    }

    private static void compareWithDocument(Path document) throws Exception {
        if (!Files.exists(document)) {
            System.out.println("the document is not there: its sentences were not compared");
            return;
        }
        Map<String, String> sections = sectionsOf(Files.readString(document, StandardCharsets.UTF_8));
        Map<String, boolean[]> named = new LinkedHashMap<>();
        sections.forEach((section, text) -> named.put(section, new boolean[text.length()]));
        for (String[] sentence : Check.SENTENCES) {
            String text = sections.getOrDefault(sentence[0], "");
            int at = text.indexOf(sentence[1]);
            if (at < 0) {
                Check.wrong("the document does not say under " + sentence[0] + ": " + sentence[1]);
            }
            for (; at >= 0; at = text.indexOf(sentence[1], at + 1)) {
                mark(named.get(sentence[0]), at, at + sentence[1].length());
            }
        }
        for (String section : sections.keySet()) {
            if (section.equals("Terms") || section.startsWith("Promise ")) {
                lookForUnnamed(section, sections.get(section), named.get(section));
            }
        }
    }

    private static Map<String, String> sectionsOf(String document) {
        Map<String, String> sections = new LinkedHashMap<>();
        for (String part : document.split("(?m)^## ")) {
            int end = part.indexOf('\n');
            String heading = part.substring(0, end).replaceAll("^(Promise \\d+):.*", "$1");
            sections.put(heading, part.substring(end).replaceAll("\\s+", " ").trim());
        }
        return sections;
    }

    private static void mark(boolean[] named, int from, int to) {
        for (int index = from; index < to; index++) {
            named[index] = true;
        }
    }

    /** The face of a promise, the names of a paragraph and a parameter without a bound need no test of their own. */
    private static void lookForUnnamed(String section, String text, boolean[] named) {
        String free = section.equals("Terms")
                ? "(?<=^|\\. )(Balconies|Feuds|Lines|Greetings|Cats|Days|Texts|Reasons|Changes|Codes of calls|Details)\\. "
                        + "|The constants: "
                : "^`[^`]*\\([^`]*\\)`: |- `\\w+`: ([^0-9`]*?(?= - `| Returns ))?";
        for (Matcher matcher = Pattern.compile(free).matcher(text); matcher.find();) {
            mark(named, matcher.start(), matcher.end());
        }
        StringBuilder rest = new StringBuilder();
        for (int index = 0; index < text.length(); index++) {
            rest.append(named[index] ? '_' : text.charAt(index));
        }
        String unnamed = rest.toString().replaceAll("[^A-Za-z0-9]*_[^A-Za-z0-9]*", " .. ");
        if (unnamed.matches(".*[A-Za-z0-9].*")) {
            Check.wrong("no test names what the document says under " + section + ": " + unnamed);
        }
    }
}
