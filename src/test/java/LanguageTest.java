import java.io.IOException;
import java.lang.reflect.Method;
import java.lang.reflect.Modifier;
import java.nio.file.Files;
import java.nio.file.Path;
import java.util.Arrays;
import java.util.Map;
import java.util.Set;
import java.util.TreeMap;
import java.util.TreeSet;
import java.util.regex.Matcher;
import java.util.regex.Pattern;

/**
 * What LANGUAGE.md asks for and the text of the class shows; FaceTest looks at rule 1. Some checks forbid more
 * than the rules, as the class does without: try, lists, casts but to double and float, most of the library.
 */
public final class LanguageTest {
    private static final Pattern METHOD = Pattern.compile("(?m)^ +(?:private |public |static |final )*[\\w\\[\\]]+ "
            + "([a-z]\\w*)\\(([^()]*)\\)(?:\\s+throws [\\w,\\s]+)? \\{$");
    private static final Pattern CALL = Pattern.compile("(?<!new )\\b([a-z]\\w*)\\(");
    private static final Set<String> WORDS = Set.of("if", "for", "while", "switch", "return", "catch", "super", "this");
    private static final Set<String> LIBRARY = Set.of("length", "charAt", "append", "setLength", "min", "max",
            "arraycopy", "values");

    private static final Map<String, Set<String>> calls = new TreeMap<>();
    private static final Map<String, Integer> bodies = new TreeMap<>();

    public static void main(String[] args) throws IOException {
        String text = Files.readString(Path.of("src/main/java/SledgePost.java"));
        Due.is("signs beyond 127", false, text.chars().anyMatch(sign -> sign > 127));
        String code = text.replaceAll("(?s)/\\*.*?\\*/", "").replaceAll("(?m)//.*$", "");
        // Words in texts are no code; their quotation marks stay.
        String bare = code.replaceAll("\"[^\"\n]*\"", "\"\"").replaceAll("'[^'\n]'", "' '");
        forbiddenWords(bare);
        exceptions(code);
        statics(bare);
        classes();
        methods(bare);
        depth();
        Due.end();
    }

    private static void no(String rule, String code, String pattern) {
        Matcher matcher = Pattern.compile(pattern).matcher(code);
        Due.is(rule, "nothing", matcher.find() ? matcher.group() : "nothing");
    }

    private static void forbiddenWords(String code) {
        no("rule 4: the library", code, "import (?!java\\.util\\.NoSuchElementException;).*");
        no("rule 2: no lambda or method reference", code, "->|::");
        no("rule 6: nothing is caught", code, "\\b(try|catch|finally)\\b");
        no("rule 6: no such word", code, "\\b(synchronized|assert|volatile|transient|native|var)\\b");
        no("rule 6: no such methods of its own", code, "\\b(equals|hashCode|toString)\\(");
        no("rule 4: none that ends in Exact", code, "\\w+Exact\\(");
        no("rule 9: an end can be seen", code, "while \\(true\\)|for \\([^;]*;\\s*;");
        no("rule 10: texts are joined by StringBuilder", code, "\"\\s*\\+|\\+\\s*\"");
        no("rule 13: no clock, no randomness", code, "\\b(Random|nanoTime|currentTimeMillis|Thread|getenv)\\b");
        no("rule 3: doubles and floats are made by casts", code, "\\((?!double|float)\\w+\\) \\w");
    }

    private static void exceptions(String code) {
        no("rule 6: a written text", code, "throw (?!new (IllegalStateException|IllegalArgumentException"
                + "|IndexOutOfBoundsException|ArithmeticException|UnsupportedOperationException"
                + "|NoSuchElementException)\\((\"[^\"]*\")?\\);).*");
        Matcher constructor = Pattern.compile("(?s)\\n {4}public SledgePost\\(\\) \\{(.*?)\\n {4}\\}").matcher(code);
        Due.is("the constructor was found", true, constructor.find());
        no("rule 6: no throw in a constructor", constructor.group(1), "throw");
    }

    private static void statics(String code) {
        no("rule 5: static fields are final", code, "(?m)^ *(?:private )?static (?!final |class |abstract )[^(]*;$");
        no("rule 5: no static initialiser", code, "static \\{");
    }

    private static void classes() {
        int classes = SledgePost.class.getDeclaredClasses().length + 1;
        Due.is("rule 11: " + classes + " classes", true, classes > 1 && classes <= 12);
        fields(SledgePost.class);
        for (Class<?> inside : SledgePost.class.getDeclaredClasses()) {
            fields(inside);
            Due.is("rule 2: none in " + inside, 0, inside.getDeclaredClasses().length);
        }
    }

    private static void fields(Class<?> owner) {
        long fields = Arrays.stream(owner.getDeclaredFields())
                .filter(field -> !Modifier.isStatic(field.getModifiers())).count();
        Due.is("rule 11: " + fields + " fields of " + owner, true, fields <= 20);
    }

    /** Notes what each method calls, by its name alone. */
    private static void methods(String code) {
        Matcher method = METHOD.matcher(code);
        while (method.find()) {
            String name = method.group(1);
            String body = code.substring(method.end(), endOfBody(code, method.end()));
            int parameters = method.group(2).isBlank() ? 0 : method.group(2).split(",").length;
            Due.is("rule 11: parameters of " + name, true, parameters <= 7);
            Due.is("rule 11: lines of " + name, true, body.lines().count() <= 60);
            bodies.merge(name, 1, Integer::sum);
            Matcher call = CALL.matcher(body);
            Set<String> called = calls.computeIfAbsent(name, key -> new TreeSet<>());
            while (call.find()) {
                if (!WORDS.contains(call.group(1))) {
                    called.add(call.group(1));
                }
            }
        }
        Set<String> names = new TreeSet<>();
        addMethodNames(names, SledgePost.class);
        for (Class<?> inside : SledgePost.class.getDeclaredClasses()) {
            addMethodNames(names, inside);
        }
        Due.is("the methods were found", names, calls.keySet());
    }

    private static void addMethodNames(Set<String> names, Class<?> owner) {
        for (Method method : owner.getDeclaredMethods()) {
            if (!method.isSynthetic() && !owner.isEnum()) {
                names.add(method.getName());
            }
        }
    }

    private static int endOfBody(String code, int start) {
        int open = 1;
        int at = start;
        while (open > 0) {
            char sign = code.charAt(at);
            open += sign == '{' ? 1 : sign == '}' ? -1 : 0;
            at++;
        }
        return at;
    }

    private static void depth() {
        for (String name : calls.keySet()) {
            Due.is("rule 11: calls below " + name + " are at most eight deep", true, deepest(name, 1) <= 8);
        }
    }

    /** A method that calls its own name is a recursion, or hands on to another class's method of this name. */
    private static int deepest(String name, int depth) {
        Set<String> called = calls.get(name);
        if (called == null) {
            Due.is("rule 4: " + name + " of the library", true, LIBRARY.contains(name));
            return depth;
        }
        if (depth > 8) {
            return depth;
        }
        int deepest = called.contains(name) && bodies.get(name) > 1 ? depth + 1 : depth;
        for (String next : called) {
            if (!next.equals(name)) {
                deepest = Math.max(deepest, deepest(next, depth + 1));
            }
        }
        return deepest;
    }
}
