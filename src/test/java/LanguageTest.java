import java.lang.reflect.Constructor;
import java.lang.reflect.Field;
import java.lang.reflect.Method;
import java.lang.reflect.Modifier;
import java.nio.charset.StandardCharsets;
import java.nio.file.Files;
import java.nio.file.Path;
import java.util.TreeSet;
import java.util.regex.Matcher;
import java.util.regex.Pattern;

/** The face of the class, and those rules of ../shared/LANGUAGE.md that can be seen from its text. */
public final class LanguageTest {
    private static final String FACE = "clear() append(char) plant(int,int) bear(int,int) hang(int,int,int) "
            + "greet(int,int) give(int,int,int) cat(int) swap(int,int) day() read() fault() reason(int,boolean) "
            + "balconyOf(int,int) feud(int,int) greeted(int,int) catOf(int,int) lineOf(int,int) feuds() feudsAgain() "
            + "excess() excessAgain() census() censusAgain() steps(int,int) stepsAgain(int,int) way(int,int,int) "
            + "circles() wouldGrow(int) kindest(int) worst(int) write(int) writeLines() written(int) isWell() "
            + "meanPlants() homeShare() account(int) undo() save() restore()";
    private static final String[] RULED_OUT = {"->", "::", "Exact\\(", "\\btry\\b", "\\bcatch\\b", "\\bfinally\\b",
        "\\bassert\\b", "\\bsynchronized\\b", "\\bpackage\\b", "\\bprotected\\b", "\\bnew Random\\b", "\\bSystem\\.(?!arraycopy)",
        "\\bString\\.format\\b", "\"\\s*\\+", "\\+\\s*\"", "\\bhashCode\\b", "\\btoString\\b", "\\bequals\\b", "\\bvar\\b",
        "\\bwhile\\b", "static \\{", "\\bthrow\\b", "\\brecord\\b", "[^\\x00-\\x7f]"};

    public static void main(String[] args) throws Exception {
        face();
        constants();
        faceOfTheDocument(Path.of(args.length > 0 ? args[0] : ".", "../shared/DOC.md"));
        String root = args.length > 0 ? args[0] : ".";
        String text = Files.readString(Path.of(root, "src/main/java/BalconyCensus.java"), StandardCharsets.UTF_8);
        textKeepsTheRules(text);
        sizes(text);
        Check.end();
    }

    private static void face() {
        TreeSet<String> found = new TreeSet<>();
        TreeSet<String> hidden = new TreeSet<>();
        for (Method method : BalconyCensus.class.getDeclaredMethods()) {
            if (method.isSynthetic()) {
                continue;
            }
            if (Modifier.isPrivate(method.getModifiers())) {
                hidden.add(method.getName());
                continue;
            }
            String types = "";
            for (Class<?> type : method.getParameterTypes()) {
                types += (types.isEmpty() ? "" : ",") + type.getName();
            }
            found.add(method.getName() + "(" + types + ")");
            Check.due(method.getName() + " is public and not static",
                    method.getModifiers(), Modifier.PUBLIC);
            Class<?> due = method.getName().equals("meanPlants") ? double.class
                    : method.getName().equals("homeShare") ? float.class : int.class;
            Check.dueText("type of " + method.getName(), method.getReturnType().getName(), due.getName());
        }
        Check.dueText("face", found.toString(), new TreeSet<>(java.util.List.of(FACE.split(" "))).toString());
        for (String name : hidden) {
            Check.due("private method " + name + " in the face", FACE.matches("(.* )?" + name + "\\(.*") ? 1 : 0, 0);
        }
        Constructor<?>[] constructors = BalconyCensus.class.getDeclaredConstructors();
        Check.due("constructors", constructors.length, 1);
        Check.due("parameters", constructors[0].getParameterCount(), 0);
        Check.due("the class is public and final", BalconyCensus.class.getModifiers(), Modifier.PUBLIC | Modifier.FINAL);
    }

    private static void constants() {
        TreeSet<String> found = new TreeSet<>();
        for (Field field : BalconyCensus.class.getDeclaredFields()) {
            int signs = field.getModifiers();
            if (!Modifier.isPrivate(signs) && !field.isSynthetic()) {
                found.add(Modifier.toString(signs) + " " + field.getType() + " " + field.getName());
            }
        }
        Check.dueText("constants", found.toString(), "[public static final int BAD, public static final int NONE, "
                + "public static final int NOTHING, public static final int REFUSED]");
    }

    /** Each line of the face as the document writes it, and the constants with their numbers. */
    private static void faceOfTheDocument(Path document) throws Exception {
        if (!Files.exists(document)) {
            System.out.println("the document is not there: its face was not compared");
            return;
        }
        String text = Files.readString(document, StandardCharsets.UTF_8);
        Matcher block = Pattern.compile("(?s)```java\n(public final class BalconyCensus \\{\n.*?)```").matcher(text);
        TreeSet<String> told = new TreeSet<>();
        if (block.find()) {
            for (Matcher line = Pattern.compile(" {4}(public .*?;)").matcher(block.group(1)); line.find();) {
                told.add(line.group(1).replaceAll(" \\w+(?=[,)])", ""));
            }
        }
        Check.dueText("the document's face", faceAsTheDocumentWritesIt().toString(), told.toString());
    }

    private static TreeSet<String> faceAsTheDocumentWritesIt() throws Exception {
        TreeSet<String> face = new TreeSet<>();
        for (Constructor<?> constructor : BalconyCensus.class.getConstructors()) {
            face.add(constructor.toString().replace(",", ", ") + ";");
        }
        for (Method method : BalconyCensus.class.getDeclaredMethods()) {
            if (Modifier.isPublic(method.getModifiers())) {
                face.add(method.toString().replace("BalconyCensus.", "").replace(",", ", ") + ";");
            }
        }
        for (Field field : BalconyCensus.class.getFields()) {
            face.add(field.toString().replace("BalconyCensus.", "") + " = " + field.getInt(null) + ";");
        }
        return face;
    }

    private static void textKeepsTheRules(String text) {
        String code = text.replaceAll("(?s)/\\*.*?\\*/", "").replaceAll("//[^\n]*", "");
        for (String sign : RULED_OUT) {
            Matcher matcher = Pattern.compile(sign).matcher(code);
            Check.due("'" + sign + "' in the text", matcher.find() ? 1 : 0, 0);
        }
        Matcher imports = Pattern.compile("import ([^;]+);").matcher(code);
        while (imports.find()) {
            Check.dueText("import", imports.group(1), "java.util.Arrays");
        }
        Matcher statics = Pattern.compile("\\bstatic (?!final|int |boolean |enum|class)[^(;]*[;=]").matcher(code);
        Check.due("static state", statics.find() ? 1 : 0, 0);
    }

    private static void sizes(String text) {
        int classes = Pattern.compile("\\b(class|enum|interface) [A-Z]\\w* \\{").matcher(text)
                .results().toList().size();
        Check.due("more than twelve classes (" + classes + ")", classes > 12 ? 1 : 0, 0);
        int start = -1;
        String[] lines = text.split("\n");
        for (int number = 0; number < lines.length; number++) {
            if (lines[number].matches(" {4,8}(?! )[^/]*\\) \\{")) {
                start = number;
            } else if (lines[number].matches(" {4,8}\\}") && start >= 0) {
                Check.due("more than sixty lines from line " + (start + 1), number - start > 60 ? 1 : 0, 0);
                start = -1;
            }
        }
    }
}
