import java.io.IOException;
import java.lang.reflect.Method;
import java.lang.reflect.Modifier;
import java.nio.charset.StandardCharsets;
import java.nio.file.Files;
import java.nio.file.Path;
import java.util.ArrayList;
import java.util.List;
import java.util.TreeSet;
import java.util.regex.Matcher;
import java.util.regex.Pattern;

/**
 * The rules of ../shared/LANGUAGE.md that the class's text shows by itself: a change that leaves the
 * language is told here, before it is sent back. (FaceTest has the rules that the compiled class shows.)
 * It runs from the project's folder, as .ci/run does.
 */
public final class LanguageTest {
    private static final Check CHECK = new Check();
    private static final Path SOURCE = Path.of("src", "main", "java", "HallCommutator.java");

    private static final Pattern METHOD = Pattern.compile(
        "(?:[\\w\\[\\]]+\\s+)+(\\w+)\\(([^()]*)\\)\\s*(?:throws [\\w, ]+)?\\s*\\{");
    private static final Pattern THROW = Pattern.compile("\\bthrow\\b[^;]*;");
    private static final Pattern ALLOWED_THROW = Pattern.compile("throw new (?:IllegalState|IllegalArgument"
        + "|IndexOutOfBounds|Arithmetic|UnsupportedOperation|NoSuchElement|Runtime)(?:Exception)\\((?:\"\")?\\);");

    /** A method of the text: its name, its parameters and its lines between the braces. */
    private static final class Part {
        final String name;
        final String parameters;
        final String body;

        Part(String name, String parameters, String body) {
            this.name = name;
            this.parameters = parameters;
            this.body = body;
        }
    }

    public static void main(String[] args) throws IOException {
        String text = Files.readString(SOURCE, StandardCharsets.ISO_8859_1);
        String code = withoutCommentsAndTexts(text);
        List<Part> methods = methods(code);
        CHECK.due("methods found, more than the face has", methods.size() > 22, true);
        plainSigns(text);
        onlyTheLibraryOfRuleFour(code);
        noForbiddenWord(code);
        noCatchOfTheMachine(code);
        exceptions(code, methods);
        staticFields(code);
        shortMethods(methods);
        objectsOnlyInConstructors(methods);
        privateNames();
        CHECK.end();
    }

    /** What stands inside quotation marks goes, the marks stay. */
    private static String withoutCommentsAndTexts(String text) {
        String code = text.replaceAll("\"(?:[^\"\\\\\n]|\\\\.)*\"", "\"\"");
        return code.replaceAll("(?s)/\\*.*?\\*/", "").replaceAll("//[^\n]*", "");
    }

    private static List<Part> methods(String code) {
        List<Part> found = new ArrayList<>();
        Matcher m = METHOD.matcher(code);
        int from = 0;
        while (m.find(from)) {
            int end = closingBrace(code, m.end());
            found.add(new Part(m.group(1), m.group(2), code.substring(m.end(), end)));
            from = end;
        }
        return found;
    }

    private static int closingBrace(String code, int from) {
        int open = 1;
        int i = from;
        while (i < code.length() && open > 0) {
            open += code.charAt(i) == '{' ? 1 : code.charAt(i) == '}' ? -1 : 0;
            i++;
        }
        return i;
    }

    private static int countOf(String pattern, String code) {
        return (int) Pattern.compile(pattern).matcher(code).results().count();
    }

    private static void none(String what, String pattern, String code) {
        CHECK.due(what, countOf(pattern, code), 0);
    }

    /** Rule 4: "constants, whose signs are 1 to 127". */
    private static void plainSigns(String text) {
        none("signs beyond 127", "[^\\x01-\\x7f]", text);
    }

    /** Rules 1, 4 and 13: no package line, and nothing of the library that rule 4 does not list. */
    private static void onlyTheLibraryOfRuleFour(String code) {
        none("package lines", "\\bpackage\\b", code);
        String rest = code.replaceAll(
            "import java\\.util\\.(?:ArrayList|List|Iterator|Arrays|NoSuchElementException);", "");
        none("other imports", "\\bimport\\b", rest);
        none("full names", "\\b(?:java|javax|jdk|sun|com)\\s*\\.", rest);
        none("System but for arraycopy", "\\bSystem\\b(?!\\.arraycopy\\()", code);
        none("names that end in Exact", "Exact\\b", code);
        none("other classes of java.lang", "\\b(?:Thread|Runtime|Object|Class|StrictMath|Double|Float)\\b", code);
    }

    /** Rules 2, 5 and 6. */
    private static void noForbiddenWord(String code) {
        String[] words = {"finally", "synchronized", "assert", "volatile", "native", "getMessage", "getClass",
            "hashCode"};
        for (String word : words) {
            none("the word " + word, "\\b" + word + "\\b", code);
        }
        none("lambdas, and arrows altogether", "->", code);
        none("method references", "::", code);
        none("static initialiser blocks", "\\bstatic\\s*\\{", code);
        none("tries with resources", "\\btry\\s*\\(", code);
    }

    /** No call is answered by catching what the machine throws, by its own name or by a class above it. */
    private static void noCatchOfTheMachine(String code) {
        String machine = "ArrayIndexOutOfBounds|StringIndexOutOfBounds|IndexOutOfBounds|NullPointer|Arithmetic"
            + "|ClassCast|NegativeArraySize|ArrayStore|Runtime|";
        none("catches of the machine", "\\bcatch\\s*\\([^)]*\\b(?:" + machine + ")Exception\\b", code);
        none("catches of all", "\\bcatch\\s*\\([^)]*\\b(?:Throwable|Error)\\b", code);
    }

    /** Rule 6: only its classes are thrown, with a written text or none. */
    private static void exceptions(String code, List<Part> methods) {
        List<String> thrown = new ArrayList<>();
        Matcher m = THROW.matcher(code);
        while (m.find()) {
            thrown.add(m.group());
        }
        CHECK.due("throws found", thrown.isEmpty(), false);
        for (String line : thrown) {
            CHECK.due(line + " is as rule 6 says", ALLOWED_THROW.matcher(line).matches(), true);
        }
        for (Part method : methods) {
            if (method.name.equals("HallCommutator")) {
                none("throws in the constructor", "\\bthrow\\b", method.body);
            }
        }
    }

    /** Rule 5: "Static fields are final". */
    private static void staticFields(String code) {
        none("static fields that are not final", "\\bstatic\\s+(?!final\\b)[\\w\\[\\]]+\\s+\\w+\\s*[=;]", code);
    }

    /** Rule 11: "at most seven parameters", "some sixty lines". */
    private static void shortMethods(List<Part> methods) {
        for (Part method : methods) {
            int parameters = method.parameters.isBlank() ? 0 : method.parameters.split(",").length;
            CHECK.due(method.name + " has at most seven parameters", parameters <= 7, true);
            CHECK.due(method.name + " has at most sixty lines", method.body.split("\n").length <= 60, true);
        }
    }

    /** This class's own way to stay small in the one room of all calls (rule 12 asks less). */
    private static void objectsOnlyInConstructors(List<Part> methods) {
        for (Part method : methods) {
            if (!method.name.equals("HallCommutator")) {
                none("objects that " + method.name + " makes", "(?<!throw )\\bnew\\b|\\.clone\\(", method.body);
            }
        }
    }

    /** Rule 1: "No private method bears the name of a public one." */
    private static void privateNames() {
        TreeSet<String> open = new TreeSet<>();
        for (Method m : HallCommutator.class.getDeclaredMethods()) {
            if (Modifier.isPublic(m.getModifiers())) {
                open.add(m.getName());
            }
        }
        for (Method m : HallCommutator.class.getDeclaredMethods()) {
            if (Modifier.isPrivate(m.getModifiers())) {
                CHECK.due(m.getName() + " is a name of the face", open.contains(m.getName()), false);
            }
        }
    }
}
