import java.io.File;
import java.io.IOException;
import java.lang.reflect.Method;
import java.lang.reflect.Modifier;
import java.nio.file.Files;
import java.nio.file.Path;
import java.util.ArrayList;
import java.util.List;
import java.util.Set;
import java.util.TreeSet;
import java.util.regex.Matcher;
import java.util.regex.Pattern;

/**
 * The calls that README.md shows answer what the comments behind them say. They are compiled as
 * they stand there, so that what a reader copies is what was tested.
 */
public final class ReadmeTest {
    private static final Path README = Path.of("README.md");
    private static final String NEW_HOUSE = "SymbolHouse house = new SymbolHouse();";
    private static final Pattern CALL = Pattern.compile(
        "(int \\w+ = )?(house\\.(\\w+)\\(.*\\)); +// (-?\\d+|throws \\w+)(: .+)?");
    private static final int LEAST_CALLS = 21;

    private static final String HEAD = """
        public final class ReadmeCalls {
            private interface Call {
                int run();
            }

            private static int wrong = 0;

            private static int due(String due, String text, Call call) {
                int answer = 0;
                String got;
                try {
                    answer = call.run();
                    got = Integer.toString(answer);
                } catch (RuntimeException e) {
                    got = "throws " + e.getClass().getSimpleName();
                }
                if (!got.equals(due)) {
                    wrong++;
                    System.out.println("README.md: " + text + " answered " + got + ", due is " + due);
                }
                return answer;
            }

        """;

    private static final Set<String> shown = new TreeSet<>();
    private static int calls = 0;
    private static int wrong = 0;

    private static void tell(String what) {
        wrong++;
        System.out.println("README.md: " + what);
    }

    private static List<List<String>> blocks() throws IOException {
        List<List<String>> blocks = new ArrayList<>();
        List<String> open = null;
        for (String line : Files.readAllLines(README)) {
            if (line.equals("```java")) {
                open = new ArrayList<>();
                blocks.add(open);
            } else if (line.equals("```")) {
                open = null;
            } else if (open != null) {
                open.add(line);
            }
        }
        return blocks;
    }

    private static String quoted(String text) {
        return '"' + text.replace("\\", "\\\\").replace("\"", "\\\"") + '"';
    }

    private static String checkedCall(String line) {
        Matcher call = CALL.matcher(line);
        if (!call.matches()) {
            tell("no call with its answer: " + line);
            return "";
        }
        calls++;
        shown.add(call.group(3));
        String kept = call.group(1) == null ? "" : call.group(1);
        return kept + "due(" + quoted(call.group(4)) + ", " + quoted(call.group(2)) + ", () -> "
            + call.group(2) + ");";
    }

    /** A block with calls becomes a method; any other one is a method already. */
    private static String member(List<String> block, int number) {
        if (!block.contains(NEW_HOUSE)) {
            return String.join("\n", block) + "\n";
        }
        StringBuilder text = new StringBuilder("static void block" + number + "() {\n");
        for (String line : block) {
            text.append(line.equals(NEW_HOUSE) ? line : checkedCall(line)).append('\n');
        }
        return text.append("}\n").toString();
    }

    private static String program(List<List<String>> blocks) {
        StringBuilder text = new StringBuilder(HEAD);
        StringBuilder main = new StringBuilder("public static void main(String[] args) {\n");
        for (int i = 0; i < blocks.size(); i++) {
            text.append(member(blocks.get(i), i));
            if (blocks.get(i).contains(NEW_HOUSE)) {
                main.append("block").append(i).append("();\n");
            }
        }
        main.append("System.exit(wrong == 0 ? 0 : 1);\n}\n");
        return text.append(main).append("}\n").toString();
    }

    private static boolean succeeds(String... command) throws IOException, InterruptedException {
        return new ProcessBuilder(command).inheritIO().start().waitFor() == 0;
    }

    private static void runProgram(String text) throws IOException, InterruptedException {
        Path folder = Files.createTempDirectory("readme");
        Path source = folder.resolve("ReadmeCalls.java");
        Files.writeString(source, text);
        String classPath = System.getProperty("java.class.path");
        if (!succeeds("javac", "-encoding", "UTF-8", "--release", "17", "-cp", classPath,
            "-d", folder.toString(), source.toString())) {
            tell("what it shows does not compile");
        } else if (!succeeds("java", "-cp", classPath + File.pathSeparator + folder, "ReadmeCalls")) {
            tell("not every answer is as shown");
        }
        try (var files = Files.list(folder)) {
            for (Path file : files.toList()) {
                Files.delete(file);
            }
        }
        Files.delete(folder);
    }

    private static void checkThatAllAreShown() {
        for (Method method : SymbolHouse.class.getDeclaredMethods()) {
            if (Modifier.isPublic(method.getModifiers()) && !shown.contains(method.getName())) {
                tell("does not show " + method.getName());
            }
        }
        if (calls < LEAST_CALLS) {
            tell("shows " + calls + " calls only");
        }
    }

    private static void checkThatTestsAreTold() throws IOException {
        String text = Files.readString(README);
        if (!text.contains("\n    .ci/run\n")) {
            tell("does not say how the tests are run");
        }
        try (var files = Files.list(Path.of("src/test/java"))) {
            for (Path file : files.toList()) {
                String name = file.getFileName().toString().replace(".java", "");
                if (!text.contains("- `" + name + "` ")) {
                    tell("does not tell of " + name);
                }
            }
        }
    }

    public static void main(String[] args) throws IOException, InterruptedException {
        runProgram(program(blocks()));
        checkThatAllAreShown();
        checkThatTestsAreTold();
        System.out.println(calls + " calls of README.md checked, " + (wrong == 0 ? "all as shown" : "not all as shown"));
        if (wrong != 0) {
            System.exit(1);
        }
    }
}
