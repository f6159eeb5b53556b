import java.io.File;
import java.io.IOException;
import java.net.URL;
import java.net.URLClassLoader;
import java.nio.file.Files;
import java.nio.file.Path;
import java.util.List;
import java.util.regex.Matcher;
import java.util.regex.Pattern;
import javax.tools.JavaCompiler;
import javax.tools.ToolProvider;

/** What README.md shows: its examples are compiled and run as one program, its tables looked at. */
public final class ReadmeTest {
    private static final Path PAGE = Path.of("README.md"), TESTS = Path.of("src/test/java");
    private static final Pattern BLOCK = Pattern.compile("(?ms)^```java\n(.*?)^```$");
    // A call, the answer behind it, and perhaps words.
    private static final Pattern CALL = Pattern.compile("((?:x|new LoafGates\\(\\))\\.\\w+\\(.*\\)); +// (-?\\w+)(:.*)?");
    private static final Pattern CONSTANT = Pattern.compile("`([A-Z]+)` (?:\\| |\\()(-?\\d+)");
    private static final Pattern FAULT = Pattern.compile("\\| ([A-Z]+) \\| (\\d) \\| (-\\d+) \\|");
    private static final Check check = new Check();

    public static void main(String[] args) throws Exception {
        String page = Files.readString(PAGE);
        String examples = examples(page);
        everyCallIsShown(examples);
        run(asProgram(examples));
        constants(page);
        faults(page);
        everyTestIsTold(page);
        check.end();
    }

    /** For the program that is made of the examples. */
    public static void due(String call, long got, long due) {
        check.same("README: " + call, got, due);
    }

    private static String examples(String page) {
        StringBuilder all = new StringBuilder();
        Matcher block = BLOCK.matcher(page);
        while (block.find()) all.append(block.group(1));
        return all.toString();
    }

    private static void everyCallIsShown(String examples) {
        for (String name : Calls.NAMES) check.holds(name + " is shown", examples.contains("." + name + "("));
    }

    /** Each call with an answer behind it is compared; what is no such call stands in the program as on the page. */
    private static String asProgram(String examples) {
        StringBuilder program = new StringBuilder("public final class Examples {\n");
        program.append("public static void main(String[] args) {\n");
        for (String line : examples.split("\n")) {
            Matcher call = CALL.matcher(line);
            check.holds("an answer stands behind " + line, call.matches() || !line.startsWith("x."));
            program.append(call.matches() ? dueLine(call.group(1), call.group(2)) : line).append('\n');
        }
        return program.append("} }\n").toString();
    }

    private static String dueLine(String call, String answer) {
        String number = answer.matches("[A-Z]+") ? "LoafGates." + answer : answer;
        return "ReadmeTest.due(\"" + call + "\", " + call + ", " + number + ");";
    }

    private static void run(String program) throws Exception {
        JavaCompiler javac = ToolProvider.getSystemJavaCompiler();
        check.holds("there is a compiler", javac != null);
        if (javac == null) return;
        Path room = Files.createTempDirectory("readme");
        Path source = Files.writeString(room.resolve("Examples.java"), program);
        String classes = System.getProperty("java.class.path");
        int failed = javac.run(null, System.out, System.out, "-cp", classes, "-d", room.toString(), source.toString());
        check.same("the examples are compiled", failed, 0);
        if (failed == 0) runMain(room);
        for (File file : room.toFile().listFiles()) Files.delete(file.toPath());
        Files.delete(room);
    }

    private static void runMain(Path room) throws Exception {
        try (URLClassLoader loader = new URLClassLoader(new URL[] {room.toUri().toURL()})) {
            loader.loadClass("Examples").getMethod("main", String[].class).invoke(null, (Object) new String[0]);
        }
    }

    private static void constants(String page) throws ReflectiveOperationException {
        Matcher told = CONSTANT.matcher(page);
        int found = 0;
        while (told.find()) {
            String name = told.group(1);
            check.same(name, LoafGates.class.getField(name).getInt(null), Integer.parseInt(told.group(2)));
            found++;
        }
        check.same("constants told with their numbers", found, 5);
    }

    private static void faults(String page) {
        List<String> names = List.of("NULL", "CAST", "INDEX", "SIZE");
        Matcher told = FAULT.matcher(page);
        int found = 0;
        while (told.find()) {
            String name = told.group(1);
            int number = names.indexOf(name) + 1;
            check.same("number of " + name, Integer.parseInt(told.group(2)), number);
            check.same("answer of " + name, Integer.parseInt(told.group(3)), -10 - number);
            found++;
        }
        check.same("faults told", found, names.size());
    }

    private static void everyTestIsTold(String page) throws IOException {
        try (var files = Files.list(TESTS)) {
            for (Path file : files.toList()) {
                String name = file.getFileName().toString().replace(".java", "");
                check.holds(name + " is told", page.contains("`" + name + "`"));
            }
        }
    }
}
