import java.io.IOException;
import java.lang.reflect.Method;
import java.net.URL;
import java.net.URLClassLoader;
import java.nio.file.Files;
import java.nio.file.Path;
import java.util.ArrayList;
import java.util.Comparator;
import java.util.List;
import java.util.Set;
import java.util.TreeSet;
import java.util.regex.Matcher;
import java.util.regex.Pattern;
import java.util.stream.Stream;
import javax.tools.ToolProvider;

/** What README.md says: its example compiles and answers as told there, its commands and tests exist. */
public final class ReadmeTest {
    private static final Check CHECK = new Check();
    private static final Path PAGE = Path.of("README.md");
    private static final Pattern EXAMPLE = Pattern.compile("(?s)```java\n(.*?)```");
    private static final Pattern COMMAND = Pattern.compile("(?m)^    (\\S.*)\n\n");
    private static final Pattern TOLD_CALL = Pattern.compile(
            "^(\\s*)((?:int \\w+ = )?)(x\\.(\\w+)\\(.*\\));\\s+// (-?\\d+|true|false)(?:: .*)?$");

    public static void main(String[] args) throws Exception {
        String page = Files.readString(PAGE);
        Path room = Files.createTempDirectory("readme");
        try {
            example(page, room);
            commands(outsideOfExamples(page), room);
            namedTests(page);
        } finally {
            clear(room);
        }
        CHECK.end();
    }

    /** Called by the example for each answer that the page tells. */
    public static int answer(String line, int got, int want) {
        CHECK.due(line, got, want);
        return got;
    }

    /** As the other one, for answers that are true or false. */
    public static boolean answer(String line, boolean got, boolean want) {
        CHECK.due(line, got, want);
        return got;
    }

    private static void example(String page, Path room) throws Exception {
        Matcher found = EXAMPLE.matcher(page);
        CHECK.due("an example", found.find(), true);
        String written = found.group(1);
        CHECK.due("one example", found.find(), false);
        runExample(written, Files.createDirectory(room.resolve("written")));
        runExample(withAnswersAsked(written), Files.createDirectory(room.resolve("asked")));
    }

    private static void runExample(String source, Path room) throws Exception {
        Path file = Files.writeString(room.resolve("Example.java"), source);
        CHECK.due("the example compiles", compile("--release", "17", "-d", room.toString(),
                "-cp", System.getProperty("java.class.path"), file.toString()), 0);
        try (URLClassLoader loader = new URLClassLoader(new URL[] {room.toUri().toURL()})) {
            Method main = loader.loadClass("Example").getMethod("main", String[].class);
            main.invoke(null, (Object) new String[0]);
        }
    }

    /** Each call of the example's main method has its answer behind it, and is asked for it. */
    private static String withAnswersAsked(String written) {
        Set<String> called = new TreeSet<>();
        List<String> lines = new ArrayList<>();
        for (String line : written.split("\n")) {
            Matcher told = TOLD_CALL.matcher(line);
            if (told.matches()) {
                called.add(told.group(4));
                lines.add(told.group(1) + told.group(2) + "ReadmeTest.answer(\"" + told.group(4) + " in line "
                        + lines.size() + "\", " + told.group(3) + ", " + told.group(5) + ");");
            } else {
                boolean silent = line.matches("^ {8}(?:int \\w+ = )?x\\.\\w+\\(.*");
                CHECK.due("an answer is told: " + line, silent, false);
                lines.add(line);
            }
        }
        for (Method method : TongueTeller.class.getDeclaredMethods()) {
            boolean shown = called.contains(method.getName());
            boolean open = java.lang.reflect.Modifier.isPublic(method.getModifiers());
            boolean left = Set.of("feed", "pair", "count").contains(method.getName());
            CHECK.due("the example shows " + method.getName(), shown, open && !left);
        }
        return String.join("\n", lines);
    }

    private static String outsideOfExamples(String page) {
        return EXAMPLE.matcher(page).replaceAll("");
    }

    private static void commands(String page, Path room) throws IOException {
        Matcher found = COMMAND.matcher(page);
        List<String> commands = new ArrayList<>();
        while (found.find()) {
            commands.add(found.group(1));
        }
        CHECK.due("two commands: " + commands, commands.size(), 2);
        String compiling = commands.get(0);
        Path out = Files.createDirectory(room.resolve("out"));
        CHECK.due("javac into out: " + compiling, compiling.matches("javac .*-d out .*"), true);
        CHECK.due(compiling, compile(compiling.replaceFirst("^javac ", "")
                .replace("-d out ", "-d " + out + " ").split(" ")), 0);
        CHECK.due("out holds the class", Files.exists(out.resolve("TongueTeller.class")), true);
        CHECK.due("the tests' command", commands.get(1).equals(".ci/run"), true);
        CHECK.due("can be run", Files.isExecutable(Path.of(commands.get(1))), true);
    }

    private static int compile(String... words) {
        return ToolProvider.getSystemJavaCompiler().run(null, null, null, words);
    }

    private static void namedTests(String page) throws IOException {
        Set<String> named = new TreeSet<>();
        Matcher found = Pattern.compile("(?m)^- `(\\w+)`: ").matcher(page);
        while (found.find()) {
            named.add(found.group(1) + ".java");
        }
        Set<String> there = new TreeSet<>();
        try (Stream<Path> files = Files.list(Path.of("src/test/java"))) {
            files.forEach(file -> there.add(file.getFileName().toString()));
        }
        CHECK.due("named " + named + ", there " + there, named.equals(there), true);
        Matcher paths = Pattern.compile("`((?:\\.\\./shared|src)/[\\w./]+)`").matcher(page);
        while (paths.find()) {
            CHECK.due(paths.group(1) + " is there", Files.exists(Path.of(paths.group(1))), true);
        }
    }

    private static void clear(Path room) throws IOException {
        try (Stream<Path> files = Files.walk(room)) {
            for (Path file : files.sorted(Comparator.reverseOrder()).toList()) {
                Files.delete(file);
            }
        }
    }
}
