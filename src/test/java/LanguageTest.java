import java.io.IOException;
import java.lang.reflect.Field;
import java.lang.reflect.Method;
import java.lang.reflect.Modifier;
import java.nio.file.Files;
import java.nio.file.Path;
import java.util.ArrayDeque;
import java.util.ArrayList;
import java.util.Deque;
import java.util.List;
import java.util.regex.Matcher;
import java.util.regex.Pattern;

/** Those rules of ../shared/LANGUAGE.md that can be seen from the text and the members of the class. */
public final class LanguageTest {
    private static final Path PROGRAM = Path.of("src/main/java/Trumpvault.java");
    private static final int MOST_CLASSES = 12;
    private static final int MOST_FIELDS = 20;
    private static final int MOST_PARAMETERS = 7;
    private static final int MOST_LINES = 60;
    // The calls of the face and the constructor.
    private static final int LEAST_METHODS = 25;

    private static final Pattern CLASS = Pattern.compile("\\b(class|interface|enum|record)\\b");

    private static final String IMPORTS = "java\\.util\\.(Arrays|ArrayList|List|Iterator|NoSuchElementException)";
    private static final String THROWN = "(IllegalState|IllegalArgument|IndexOutOfBounds|Arithmetic"
            + "|UnsupportedOperation|NoSuchElement|Runtime)Exception";

    // The rule's number, and what the program, its comments and texts left out, must not hold.
    private static final String[][] BANNED = {
        {"1", "\\bpackage\\b|\\bprotected\\b"},
        {"2", "->|::"},
        {"4", "\\bMath\\.\\w+Exact\\b|\\.stream\\b|\\b(Map|Set|HashMap|HashSet|Deque|Random|Thread|Objects|Optional)\\b"},
        {"5", "\\bstatic\\s*\\{"},
        {"6", "\\b(finally|synchronized|assert|getMessage|Throwable|Error)\\b|catch *\\( *Exception\\b"},
        {"6", "\\bint hashCode\\b|\\bString toString\\b|\\bboolean equals\\b"},
        {"6", "(NullPointer|ArrayIndexOutOfBounds|ClassCast|NegativeArraySize|ArrayStore)Exception"},
        {"13", "\\bSystem\\.(?!arraycopy\\b)|\\b(File|Files|Path|Socket|Clock|Instant)\\b"},
    };

    private static int wrong = 0;

    private LanguageTest() {
    }

    private static void fail(String rule, String what) {
        wrong++;
        System.out.println("rule " + rule + ": " + what);
    }

    private static String withoutCommentsAndTexts(String program) {
        return program.replaceAll("\"[^\"\n]*\"", "\"\"").replaceAll("//[^\n]*", "").replaceAll("(?s)/\\*.*?\\*/", "");
    }

    private static void lookAtWords(String code) {
        for (String[] banned : BANNED) {
            Matcher found = Pattern.compile(banned[1]).matcher(code);
            while (found.find()) {
                fail(banned[0], "the program holds " + found.group());
            }
        }
        Matcher imports = Pattern.compile("\\bimport ([^;]*);").matcher(code);
        while (imports.find()) {
            if (!imports.group(1).matches(IMPORTS)) {
                fail("4", "the program imports " + imports.group(1));
            }
        }
    }

    private static void lookAtThrows(String code) {
        Matcher thrown = Pattern.compile("\\bthrow\\b[^;]*;").matcher(code);
        while (thrown.find()) {
            if (!thrown.group().matches("throw new " + THROWN + "\\((\"\")?\\);")) {
                fail("6", "the program holds " + thrown.group());
            }
        }
    }

    private static void lookAtTexts(String program) {
        Matcher text = Pattern.compile("\"[^\"\n]*\"").matcher(program);
        while (text.find()) {
            if (!text.group().chars().allMatch(sign -> sign >= 1 && sign <= 127)) {
                fail("4", "a text has a sign above 127: " + text.group());
            }
        }
    }

    /** A method is a pair of braces right inside a class, with parameters before it. */
    private static void lookAtLengths(String code) {
        Deque<String> heads = new ArrayDeque<>();
        Deque<Integer> starts = new ArrayDeque<>();
        int headStart = 0;
        int methods = 0;
        for (int at = 0; at < code.length(); at++) {
            char sign = code.charAt(at);
            if (sign == '{') {
                heads.push(code.substring(headStart, at));
                starts.push(headStart);
            } else if (sign == '}') {
                String head = heads.pop();
                int start = starts.pop();
                if (isMethod(head, heads.peek())) {
                    methods++;
                    lookAtLength(head.trim(), code.substring(start, at).trim());
                }
            }
            if (sign == '{' || sign == '}' || sign == ';') {
                headStart = at + 1;
            }
        }
        if (methods < LEAST_METHODS) {
            fail("11", "only " + methods + " methods were found");
        }
    }

    private static boolean isMethod(String head, String outerHead) {
        return outerHead != null && CLASS.matcher(outerHead).find() && head.contains(")");
    }

    private static void lookAtLength(String head, String method) {
        int lines = method.split("\n").length + 1;
        if (lines > MOST_LINES) {
            fail("11", "a method of " + lines + " lines: " + head);
        }
    }

    private static List<Class<?>> classes(Class<?> outer) {
        List<Class<?>> found = new ArrayList<>();
        found.add(outer);
        for (Class<?> inside : outer.getDeclaredClasses()) {
            found.addAll(classes(inside));
        }
        return found;
    }

    private static void lookAtMembers(Class<?> type) {
        int fields = 0;
        for (Field field : type.getDeclaredFields()) {
            boolean isStatic = Modifier.isStatic(field.getModifiers());
            fields += isStatic ? 0 : 1;
            if (isStatic && !Modifier.isFinal(field.getModifiers())) {
                fail("5", field + " is static and not final");
            }
        }
        if (fields > MOST_FIELDS) {
            fail("11", type + " has " + fields + " fields");
        }
        for (Method method : type.getDeclaredMethods()) {
            if (method.getParameterCount() > MOST_PARAMETERS) {
                fail("11", method + " takes " + method.getParameterCount() + " parameters");
            }
        }
    }

    public static void main(String[] args) throws IOException {
        String program = Files.readString(PROGRAM);
        String code = withoutCommentsAndTexts(program);
        lookAtWords(code);
        lookAtThrows(code);
        lookAtTexts(program);
        lookAtLengths(code);
        List<Class<?>> all = classes(Trumpvault.class);
        if (all.size() > MOST_CLASSES) {
            fail("11", all.size() + " classes");
        }
        for (Class<?> type : all) {
            lookAtMembers(type);
        }
        System.out.println(wrong == 0 ? "the rules are kept" : wrong + " faults against the rules");
        if (wrong > 0) {
            System.exit(1);
        }
    }
}
