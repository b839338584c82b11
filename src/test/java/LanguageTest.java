import java.io.IOException;
import java.lang.reflect.Method;
import java.lang.reflect.Modifier;
import java.nio.file.Files;
import java.nio.file.Path;
import java.util.HashSet;
import java.util.List;
import java.util.Map;
import java.util.Set;
import java.util.TreeMap;
import java.util.regex.Matcher;
import java.util.regex.Pattern;

/**
 * The text of the class against the rules of LANGUAGE.md, as narrow as the class needs them: what
 * it never needs (library objects, while, recursion, rows made in calls) is not let in at all.
 */
public final class LanguageTest {
    private static final Path SOURCE = Path.of("src/main/java/SymbolHouse.java");

    private static final Set<String> THROWN = Set.of("IllegalStateException",
        "IllegalArgumentException", "IndexOutOfBoundsException", "UnsupportedOperationException",
        "NoSuchElementException");
    private static final Set<String> LIBRARY = Set.of("Long.bitCount", "Long.numberOfTrailingZeros");
    private static final Set<String> BOUNDS = Set.of("PACKAGE_LIMIT", "SYMBOL_LIMIT", "LETTER_LIMIT",
        "NICKNAME_LIMIT", "symbolCount", "nicknameCount");
    private static final List<String> NEVER = List.of("->", "::", "\\btry\\b", "\\bcatch\\b",
        "\\bfinally\\b", "\\bsynchronized\\b", "\\bassert\\b", "\\bwhile\\b", "\\bdo\\b",
        "\\bprotected\\b", "\\bdouble\\b", "\\bfloat\\b", "\\bpackage\\b", "\\bObject\\b",
        "\\bnull\\b", "\\bnative\\b", "\\btransient\\b", "\\bvolatile\\b", "\\bstatic \\{",
        "[/%]", "\"", "@");

    private static final int LONGEST_METHOD = 60;
    private static final int MOST_PARAMETERS = 7;
    private static final int DEEPEST_CALLS = 8;
    private static final int MOST_CLASSES = 12;
    private static final int MOST_FIELDS = 20;

    private static final Pattern METHOD = Pattern.compile(
        "\\n +(?:public |private )(?:static )?(?:[\\w\\[\\]]+ )?(\\w+)\\(([^)]*)\\)[\\w, ]* \\{");
    private static final Pattern LOOP = Pattern.compile("\\bfor \\(");
    private static final Pattern COUNTED_LOOP = Pattern.compile(
        "\\bfor \\(int (\\w+) = 0; \\1 < (\\w+); \\1\\+\\+\\)");

    private static final Map<String, String> bodies = new TreeMap<>();
    private static int wrong = 0;

    private static void check(boolean holds, String rule, String what) {
        if (!holds) {
            wrong++;
            System.out.println("rule " + rule + ": " + what);
        }
    }

    private static String withoutComments(String text) {
        return text.replaceAll("(?s)/\\*.*?\\*/", "").replaceAll("//[^\\n]*", "");
    }

    private static int endOfBody(String code, int start) {
        int open = 1;
        int at = start;
        while (open > 0) {
            char c = code.charAt(at);
            open += c == '{' ? 1 : c == '}' ? -1 : 0;
            at++;
        }
        return at;
    }

    private static void readMethods(String code) {
        Matcher method = METHOD.matcher(code);
        while (method.find()) {
            String name = method.group(1);
            String body = code.substring(method.end(), endOfBody(code, method.end()));
            check(bodies.put(name, body) == null, "1", name + " is there twice");
            check(body.lines().count() <= LONGEST_METHOD, "11", name + " is too long");
            check(method.group(2).split(",").length <= MOST_PARAMETERS, "11",
                name + " has too many parameters");
        }
    }

    /** The constructor is one of them. */
    private static int methodsThere() {
        int there = 1 + SymbolHouse.class.getDeclaredMethods().length;
        for (Class<?> type : SymbolHouse.class.getDeclaredClasses()) {
            there += type.getDeclaredMethods().length;
        }
        return there;
    }

    private static void checkWords(String code) {
        check(code.chars().allMatch(c -> c == '\n' || c >= 32 && c <= 126), "3", "not plain text");
        for (String word : NEVER) {
            check(!Pattern.compile(word).matcher(code).find(), "2 to 10", "it has " + word);
        }
        Matcher imports = Pattern.compile("import ([^;]*);").matcher(code);
        while (imports.find()) {
            check(imports.group(1).equals("java.util.NoSuchElementException"), "4", imports.group());
        }
        Matcher calls = Pattern.compile("\\b([A-Z][a-z]\\w*\\.\\w+)\\(").matcher(code);
        while (calls.find()) {
            check(LIBRARY.contains(calls.group(1)), "4", calls.group());
        }
    }

    private static void checkThrows(String code) {
        Matcher thrown = Pattern.compile("\\bthrow\\b([^;]*);").matcher(code);
        while (thrown.find()) {
            String made = thrown.group(1).trim().replaceAll("^new (\\w+)\\(\\)$", "$1");
            check(THROWN.contains(made), "6", thrown.group());
        }
        check(!bodies.get("SymbolHouse").contains("throw"), "6", "the constructor throws");
    }

    private static void checkLoops(String code) {
        Matcher counted = COUNTED_LOOP.matcher(code);
        long loops = LOOP.matcher(code).results().count();
        long ending = 0;
        while (counted.find()) {
            check(BOUNDS.contains(counted.group(2)), "9", counted.group());
            ending++;
        }
        check(loops == ending, "9", (loops - ending) + " loops do not count up to a bound");
    }

    private static void checkWhatIsMade() {
        bodies.forEach((name, body) -> {
            String made = body.replace("throw new ", "throw ");
            check(name.equals("SymbolHouse") || !made.contains("new "), "12", name + " makes objects");
        });
    }

    private static int depth(String name, Set<String> open) {
        if (!open.add(name)) {
            check(false, "8", name + " calls itself");
            return 0;
        }
        int deepest = 0;
        Matcher called = Pattern.compile("\\b(\\w+)\\(").matcher(bodies.get(name));
        while (called.find()) {
            if (bodies.containsKey(called.group(1))) {
                deepest = Math.max(deepest, depth(called.group(1), open));
            }
        }
        open.remove(name);
        return deepest + 1;
    }

    private static void checkDepth() {
        for (String name : bodies.keySet()) {
            check(depth(name, new HashSet<>()) <= DEEPEST_CALLS, "11", name + " goes too deep");
        }
    }

    private static void checkClass(Class<?> type, Set<String> faceNames) {
        int fields = 0;
        for (var field : type.getDeclaredFields()) {
            int modifiers = field.getModifiers();
            fields += Modifier.isStatic(modifiers) ? 0 : 1;
            check(!Modifier.isStatic(modifiers)
                || Modifier.isFinal(modifiers) && field.getType().isPrimitive(), "5", "" + field);
        }
        check(fields <= MOST_FIELDS, "11", type + " has too many fields");
        for (Method method : type.getDeclaredMethods()) {
            check(Modifier.isPublic(method.getModifiers())
                || !faceNames.contains(method.getName()), "1", "" + method);
        }
    }

    private static void checkClasses() {
        Set<String> faceNames = new HashSet<>();
        for (Method method : SymbolHouse.class.getDeclaredMethods()) {
            if (Modifier.isPublic(method.getModifiers())) {
                faceNames.add(method.getName());
            }
        }
        checkClass(SymbolHouse.class, faceNames);
        Class<?>[] inside = SymbolHouse.class.getDeclaredClasses();
        check(inside.length < MOST_CLASSES, "11", "too many classes");
        for (Class<?> type : inside) {
            checkClass(type, faceNames);
            int modifiers = type.getModifiers();
            check(Modifier.isStatic(modifiers) && !Modifier.isPublic(modifiers)
                && !Modifier.isProtected(modifiers), "1", "" + type);
        }
    }

    public static void main(String[] args) throws IOException {
        String code = withoutComments(Files.readString(SOURCE));
        readMethods(code);
        check(bodies.size() == methodsThere(), "11", "not every method was read");
        checkWords(code);
        checkThrows(code);
        checkLoops(code);
        checkWhatIsMade();
        checkDepth();
        checkClasses();
        System.out.println(bodies.size() + " methods held against the rules, " + wrong + " wrong");
        if (wrong != 0) {
            System.exit(1);
        }
    }
}
