import java.io.IOException;
import java.lang.reflect.Executable;
import java.lang.reflect.Field;
import java.lang.reflect.Method;
import java.lang.reflect.Modifier;
import java.nio.charset.StandardCharsets;
import java.nio.file.Files;
import java.nio.file.Path;
import java.util.ArrayList;
import java.util.List;
import java.util.Set;
import java.util.TreeSet;
import java.util.regex.Matcher;
import java.util.regex.Pattern;

/**
 * The program keeps to the rules of LANGUAGE.md that can be seen in its text or in its classes. It
 * is started in the folder of the project, as .ci/run does it.
 */
public final class LanguageTest {
    private static final Path PROGRAM = Path.of("src", "main", "java", "TideTable.java");

    private static final int MOST_PARAMETERS = 7;
    private static final int MOST_LINES = 60;
    private static final int MOST_CLASSES = 12;
    private static final int MOST_FIELDS = 20;

    private static final Set<String> IMPORTS = Set.of("java.util.ArrayList", "java.util.List",
            "java.util.Arrays", "java.util.Iterator", "java.util.NoSuchElementException");
    private static final Set<String> LIBRARY_CALLS = Set.of("Math.max", "Math.min", "Math.abs",
            "System.arraycopy", "Arrays.fill", "Arrays.copyOf", "Arrays.copyOfRange");
    private static final Set<String> EXCEPTIONS = Set.of("IllegalStateException",
            "IllegalArgumentException", "IndexOutOfBoundsException");
    private static final Set<String> CONSTANT_TYPES = Set.of("int", "long", "boolean", "char",
            "String", "int[]", "long[]", "char[]", "byte[]");

    private final Due due = new Due();
    private final String code;

    private LanguageTest(String text) {
        code = withoutRemarks(text);
    }

    public static void main(String[] args) throws IOException {
        String text = Files.readString(PROGRAM, StandardCharsets.ISO_8859_1);
        LanguageTest test = new LanguageTest(text);
        test.due.same("signs are 1 to 127", text.chars().allMatch(c -> c > 0 && c < 128), true);
        test.namesOfPrivateMethods();
        test.constants();
        test.library();
        test.exceptions();
        test.wordsThatAreOut();
        test.indices();
        test.sizes();
        test.due.end("LanguageTest");
    }

    /** The text with comments and written texts emptied, so that only code is looked at. */
    private static String withoutRemarks(String text) {
        return text.replaceAll("(?s)/\\*.*?\\*/", "")
                .replaceAll("//[^\n]*", "")
                .replaceAll("\"[^\"\n]*\"", "\"\"");
    }

    private static List<Class<?>> classes() {
        List<Class<?>> all = new ArrayList<>();
        all.add(TideTable.class);
        all.addAll(List.of(TideTable.class.getDeclaredClasses()));
        return all;
    }

    /** Rule 1: "No private method bears the name of a public one." */
    private void namesOfPrivateMethods() {
        Set<String> shown = new TreeSet<>();
        Set<String> hidden = new TreeSet<>();
        for (Method one : TideTable.class.getDeclaredMethods()) {
            (Modifier.isPublic(one.getModifiers()) ? shown : hidden).add(one.getName());
        }
        hidden.retainAll(shown);
        due.same("names of both sorts of methods", hidden.toString(), "[]");
    }

    /** Rule 5: static fields are final, and of few types; no static block. */
    private void constants() {
        for (Class<?> type : classes()) {
            for (Field one : type.getDeclaredFields()) {
                if (Modifier.isStatic(one.getModifiers())) {
                    due.same(one + " is final", Modifier.isFinal(one.getModifiers()), true);
                    due.same(one + " is of such a type",
                            CONSTANT_TYPES.contains(one.getType().getSimpleName()), true);
                }
            }
        }
        due.same("static blocks", found("static\\s*\\{").toString(), "[]");
    }

    /** Rules 1, 3 and 4: nothing is taken from the library but what stands there. */
    private void library() {
        for (String one : found("import\\s+([^;]+);")) {
            due.same("import " + one, IMPORTS.contains(one), true);
        }
        for (String one : found("\\b((?:Math|System|Arrays|Integer|Long|String)\\.\\w+)")) {
            due.same("call of " + one, LIBRARY_CALLS.contains(one), true);
        }
        due.same("package lines", found("\\bpackage\\s").toString(), "[]");
    }

    /** Rule 6: what is thrown is made there and then, of a class that the document names. */
    private void exceptions() {
        List<String> thrown = found("\\bthrow\\s+([^;]*);");
        due.same("something is thrown", thrown.isEmpty(), false);
        for (String one : thrown) {
            Matcher made = Pattern.compile("new (\\w+)\\(\"\"\\)").matcher(one);
            due.same("throw " + one, made.matches() && EXCEPTIONS.contains(made.group(1)), true);
        }
    }

    /** Rules 2, 3, 6 and 10: words and signs that the program does without. */
    private void wordsThatAreOut() {
        String words = "try|catch|finally|synchronized|assert|instanceof|native|volatile|transient"
                + "|yield|var|Object|Thread|Random|Runtime|Class|equals|hashCode|toString"
                + "|getMessage|NaN|POSITIVE_INFINITY|while|do|goto";
        due.same("words", found("\\b(" + words + ")\\b").toString(), "[]");
        due.same("lambdas and references", found("(->|::)").toString(), "[]");
        due.same("texts joined by +", found("(\"\\s*\\+|\\+\\s*\")").toString(), "[]");
        due.same("loops without a bound", found("(for\\s*\\([^;)]*;\\s*;)").toString(), "[]");
    }

    /** Rule 7: an index is looked at before it is used, so none is a number that stands there. */
    private void indices() {
        due.same("indices that are numbers", found("\\w(\\[\\d+\\])").toString(), "[]");
    }

    /** Rules 3 and 11: how many parameters, lines, classes and fields there are. */
    private void sizes() {
        due.same("classes are few", classes().size() <= MOST_CLASSES, true);
        for (Class<?> type : classes()) {
            List<Executable> parts = new ArrayList<>(List.of(type.getDeclaredMethods()));
            parts.addAll(List.of(type.getDeclaredConstructors()));
            for (Executable one : parts) {
                due.same(one + " takes few", one.getParameterCount() <= MOST_PARAMETERS, true);
            }
            int fields = 0;
            for (Field one : type.getDeclaredFields()) {
                fields += Modifier.isStatic(one.getModifiers()) ? 0 : 1;
            }
            due.same(type + " has few fields", fields <= MOST_FIELDS, true);
        }
        int longest = longestMethod();
        due.same("methods were found", longest > 1, true);
        due.same("methods are short", longest <= MOST_LINES, true);
    }

    /** The lines of the longest method: methods end where a brace stands as deep as they begin. */
    private int longestMethod() {
        Pattern method = Pattern.compile(
                "(?m)^( {4}| {8})(?!\\s)(?![^\\n]*\\b(?:class|enum|interface|record)\\b)"
                        + "[^\\n;=]*\\((?s:[^;{]*)\\{\\n(?s:.*?)\\n\\1\\}$");
        Matcher found = method.matcher(code);
        int longest = 0;
        while (found.find()) {
            longest = Math.max(longest, (int) found.group().lines().count());
        }
        return longest;
    }

    private List<String> found(String pattern) {
        List<String> all = new ArrayList<>();
        Matcher matcher = Pattern.compile(pattern).matcher(code);
        while (matcher.find()) {
            all.add(matcher.groupCount() == 0 ? matcher.group() : matcher.group(1));
        }
        return all;
    }
}
