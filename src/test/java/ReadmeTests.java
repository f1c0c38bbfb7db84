import java.io.IOException;
import java.lang.reflect.InvocationTargetException;
import java.lang.reflect.Method;
import java.nio.charset.StandardCharsets;
import java.nio.file.Files;
import java.nio.file.Path;
import java.util.List;
import java.util.TreeSet;
import java.util.regex.Matcher;
import java.util.regex.Pattern;
import java.util.stream.Collectors;
import java.util.stream.Stream;

/** README.md says how to use the class and how to run its tests, and what it says is so. */
public final class ReadmeTests {
    private static final Path SCRIPT = Path.of(".ci/run");
    private static final Path TESTS = Path.of("src/test/java");
    private static int wrong;

    private static void fail(String what) {
        wrong++;
        System.out.println("README.md: " + what);
    }

    private static String read(Path file) throws IOException {
        return Files.readString(file, StandardCharsets.UTF_8);
    }

    /** What stands under a heading, up to the next one. */
    private static String section(String readme, String heading) {
        Matcher found = Pattern.compile("(?ms)^## " + heading + "\n(.*?)(?=^## |\\z)").matcher(readme);
        if (!found.find()) {
            fail("there is no section " + heading);
            return "";
        }
        return found.group(1);
    }

    /** Each call of the document's face is named, with its parameters. */
    private static void testCalls(String use) throws IOException {
        Matcher face = Pattern.compile("(?m)^    public int (\\w+\\(.*\\));$")
                .matcher(read(Path.of("../shared/DOC.md")));
        int calls = 0;
        while (face.find()) {
            calls++;
            String call = face.group(1).replaceAll("\\b(int|long|boolean) ", "");
            if (!use.contains("`" + call + "`")) {
                fail("the call " + call + " is not named");
            }
        }
        if (calls != 55) {
            fail(calls + " calls were found in the document");
        }
    }

    private static Object argument(Class<?> type, String word) {
        if (type == long.class) {
            return Long.decode(word.replace("L", ""));
        }
        return type == boolean.class ? (Object) Boolean.valueOf(word) : Integer.valueOf(word);
    }

    private static int answer(SealCouncil x, String name, String inside) throws IllegalAccessException {
        String[] words = inside.isEmpty() ? new String[0] : inside.split(", ");
        for (Method m : SealCouncil.class.getDeclaredMethods()) {
            if (m.getName().equals(name) && m.getParameterCount() == words.length) {
                Object[] arguments = new Object[words.length];
                for (int i = 0; i < words.length; i++) {
                    arguments[i] = argument(m.getParameterTypes()[i], words[i]);
                }
                try {
                    return (int) m.invoke(x, arguments);
                } catch (InvocationTargetException e) {
                    throw new IllegalStateException(name, e);
                }
            }
        }
        throw new IllegalStateException("no call " + name + " with " + words.length + " arguments");
    }

    /** Each line of the example but the first is a call, and behind it what it answers. */
    private static void testExample(String use) throws IllegalAccessException {
        Matcher block = Pattern.compile("(?s)```java\n(.*?)```").matcher(use);
        if (!block.find()) {
            fail("there is no example");
            return;
        }
        List<String> lines = block.group(1).lines().collect(Collectors.toList());
        if (lines.size() < 2 || !lines.get(0).equals("SealCouncil x = new SealCouncil();")) {
            fail("the example makes no object");
            return;
        }
        SealCouncil x = new SealCouncil();
        for (String line : lines.subList(1, lines.size())) {
            Matcher call = Pattern.compile("x\\.(\\w+)\\((.*)\\); +// (-?\\d+)(:.*)?").matcher(line);
            if (!call.matches()) {
                fail("the example has " + line);
            } else if (answer(x, call.group(1), call.group(2)) != Integer.parseInt(call.group(3))) {
                fail("the example's call answers otherwise: " + line);
            }
        }
    }

    /** The commands for the tests are the script itself and those that it runs, no more and no fewer. */
    private static void testCommands(String tests) throws IOException {
        TreeSet<String> named = tests.lines().filter(line -> line.startsWith("    ")).map(String::trim)
                .collect(Collectors.toCollection(TreeSet::new));
        TreeSet<String> run = read(SCRIPT).lines().map(String::trim).filter(line -> line.matches("javac? .*"))
                .map(line -> line.replaceAll(" &&$", "")).collect(Collectors.toCollection(TreeSet::new));
        run.add(SCRIPT.toString());
        if (run.size() != 3 || !named.equals(run)) {
            fail("names the commands " + named + "; there are " + run);
        }
        if (!Files.isExecutable(SCRIPT)) {
            fail(SCRIPT + " can't be run");
        }
        for (String place : new String[] {TESTS.toString(), "../shared/tests"}) {
            if (!tests.contains("`" + place + "`") || !read(SCRIPT).contains(place + "/*.java")) {
                fail("the tests of " + place + " are not named, or not run");
            }
        }
    }

    private static void testNames(String tests) throws IOException {
        try (Stream<Path> files = Files.list(TESTS)) {
            for (Path file : files.sorted().collect(Collectors.toList())) {
                if (!tests.contains("- `" + file.getFileName().toString().replace(".java", "") + "`: ")) {
                    fail("nothing is said of " + file);
                }
            }
        }
    }

    public static void main(String[] args) throws IOException, IllegalAccessException {
        String readme = read(Path.of("README.md"));
        String use = section(readme, "How to use it");
        String tests = section(readme, "How to run its tests");
        testCalls(use);
        testExample(use);
        testCommands(tests);
        testNames(tests);
        System.out.println(wrong == 0 ? "README.md says what is so" : wrong + " things in README.md are not so");
        if (wrong != 0) {
            System.exit(1);
        }
    }
}
