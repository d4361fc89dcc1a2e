import java.io.IOException;
import java.io.UncheckedIOException;
import java.lang.reflect.Method;
import java.lang.reflect.Modifier;
import java.net.URL;
import java.net.URLClassLoader;
import java.nio.file.Files;
import java.nio.file.Path;
import java.nio.file.StandardCopyOption;
import java.util.ArrayList;
import java.util.Comparator;
import java.util.List;
import java.util.Set;
import java.util.TreeSet;
import java.util.regex.Matcher;
import java.util.regex.Pattern;
import java.util.stream.Stream;
import javax.tools.JavaCompiler;
import javax.tools.ToolProvider;

/** What README.md tells: the answers of its examples, its commands, the tests that it lists. */
public final class ReadmeTest {
    private static final Checks checks = new Checks("ReadmeTest");
    private static final Path README = Path.of("README.md");
    private static final Path SHARED = Path.of("../shared");
    private static final Pattern BLOCK = Pattern.compile("(?ms)^```(\\w+)\n(.*?)^```$");
    /** A call, and behind it the answer: a number or a constant, perhaps with words behind a colon. */
    private static final Pattern EXAMPLE = Pattern.compile("(pads\\.\\w+\\(.*\\)); *// (-?\\w+)(?:: .*)?");
    private static final Pattern CONSTANT = Pattern.compile("`([A-Z]+)` \\((-\\d+)\\)");
    private static final Pattern LISTED = Pattern.compile("(?m)^\\| `(\\w+)` \\|");
    private static final String NEW_OBJECT = "BurntPads pads = new BurntPads();";
    /** The script that runs this test: it can't be run in here once more. */
    private static final String ALL_TESTS = ".ci/run";
    private static final int MOST_CALLS = 512;

    public static void main(String[] args) throws IOException, ReflectiveOperationException, InterruptedException {
        String readme = Files.readString(README);
        Path room = Files.createTempDirectory("readme");
        try {
            answersOfExamples(blocks(readme, "java"), room);
            everyCallHasAnExample(readme);
            constantsTold(readme);
            testsListed(readme);
            commandsWork(blocks(readme, "sh"), room);
        } finally {
            remove(room);
        }
        checks.end();
    }

    /** The lines of all blocks of a language. */
    private static List<String> blocks(String readme, String language) {
        List<String> lines = new ArrayList<>();
        Matcher block = BLOCK.matcher(readme);
        while (block.find()) {
            if (block.group(1).equals(language)) {
                lines.addAll(block.group(2).lines().filter(line -> !line.isBlank()).toList());
            }
        }
        checks.holds("README.md has blocks of " + language, !lines.isEmpty());
        return lines;
    }

    private static void answersOfExamples(List<String> lines, Path room)
            throws IOException, ReflectiveOperationException {
        List<String> calls = new ArrayList<>();
        List<Long> due = new ArrayList<>();
        checks.holds("the examples begin with a new object", lines.get(0).equals(NEW_OBJECT));
        for (String line : lines.subList(1, lines.size())) {
            Matcher example = EXAMPLE.matcher(line);
            boolean isExample = example.matches();
            checks.holds("a call with its answer: " + line, isExample);
            if (isExample) {
                calls.add(example.group(1));
                due.add(numberOf(example.group(2)));
            }
        }
        checks.holds(calls.size() + " calls on one object", calls.size() <= MOST_CALLS);
        List<?> got = answers(calls, room);
        for (int k = 0; k < calls.size(); k++) {
            checks.due("the example " + calls.get(k), (Long) got.get(k), due.get(k));
        }
    }

    private static long numberOf(String answer) throws ReflectiveOperationException {
        boolean isConstant = answer.matches("[A-Z]+");
        return isConstant ? ((Number) BurntPads.class.getField(answer).get(null)).longValue() : Long.parseLong(answer);
    }

    /** The calls as javac takes them, not as this test reads them. */
    private static List<?> answers(List<String> calls, Path room) throws IOException, ReflectiveOperationException {
        StringBuilder source = new StringBuilder("public final class Examples {\n"
            + "    public static java.util.List<Long> answers() {\n"
            + "        java.util.List<Long> answers = new java.util.ArrayList<>();\n" + NEW_OBJECT + "\n");
        calls.forEach(call -> source.append("        answers.add((long) ").append(call).append(");\n"));
        source.append("        return answers;\n    }\n}\n");
        Path file = Files.writeString(room.resolve("Examples.java"), source);
        JavaCompiler javac = ToolProvider.getSystemJavaCompiler();
        String classPath = System.getProperty("java.class.path");
        int exit = javac.run(null, null, null, "-d", room.toString(), "-cp", classPath, file.toString());
        checks.due("javac of the examples", exit, 0);
        try (URLClassLoader loader = new URLClassLoader(new URL[] {room.toUri().toURL()})) {
            return (List<?>) loader.loadClass("Examples").getMethod("answers").invoke(null);
        }
    }

    private static void everyCallHasAnExample(String readme) {
        for (Method method : BurntPads.class.getDeclaredMethods()) {
            if (Modifier.isPublic(method.getModifiers())) {
                checks.holds("an example of " + method.getName(), readme.contains("pads." + method.getName() + "("));
            }
        }
    }

    private static void constantsTold(String readme) throws ReflectiveOperationException {
        Matcher constant = CONSTANT.matcher(readme);
        int told = 0;
        while (constant.find()) {
            told++;
            checks.due(constant.group(1), BurntPads.class.getField(constant.group(1)).getInt(null),
                Integer.parseInt(constant.group(2)));
        }
        checks.due("constants told with their numbers", told, 5);
    }

    private static void testsListed(String readme) throws IOException {
        Set<String> listed = new TreeSet<>();
        Matcher row = LISTED.matcher(readme);
        while (row.find()) {
            listed.add(row.group(1));
        }
        Set<String> there = new TreeSet<>();
        try (Stream<Path> files = Files.list(Path.of("src/test/java"))) {
            files.map(file -> file.getFileName().toString()).filter(name -> name.endsWith("Test.java"))
                .forEach(name -> there.add(name.substring(0, name.length() - ".java".length())));
        }
        checks.holds("tests listed: " + listed + ", there are " + there, listed.equals(there));
    }

    /** In a copy of what lies in the checkout, with ../shared beside it. */
    private static void commandsWork(List<String> commands, Path room) throws IOException, InterruptedException {
        Path copy = Files.createDirectory(room.resolve("main"));
        copy(Path.of("src"), copy);
        copy(Path.of(".ci"), copy);
        if (Files.exists(SHARED)) {
            Files.createSymbolicLink(room.resolve("shared"), SHARED.toRealPath());
        }
        for (String command : commands) {
            if (command.equals(ALL_TESTS)) {
                checks.holds(command + " is a script", Files.readString(copy.resolve(command)).startsWith("#!"));
            } else if (namesWhatIsNotShared(command)) {
                System.out.println("ReadmeTest: ../shared has no such file: " + command);
            } else {
                checks.due(command, exitCode(command, copy), 0);
            }
        }
        checks.holds("the command of all tests is told", commands.contains(ALL_TESTS));
    }

    /** Told, not refused: what lies in ../shared is not ours, and may change while this checkout stays. */
    private static boolean namesWhatIsNotShared(String command) {
        Matcher file = Pattern.compile("\\.\\./shared/\\S+").matcher(command);
        return file.find() && !Files.exists(Path.of(file.group()));
    }

    private static int exitCode(String command, Path folder) throws IOException, InterruptedException {
        Process process = new ProcessBuilder("sh", "-c", command).directory(folder.toFile())
            .redirectErrorStream(true).start();
        process.getOutputStream().close();
        byte[] output = process.getInputStream().readAllBytes();
        int exit = process.waitFor();
        if (exit != 0) {
            System.out.write(output, 0, output.length);
        }
        return exit;
    }

    private static void copy(Path from, Path folder) throws IOException {
        try (Stream<Path> all = Files.walk(from)) {
            all.forEach(path -> copyOne(path, folder.resolve(path)));
        }
    }

    private static void copyOne(Path from, Path to) {
        try {
            Files.copy(from, to, StandardCopyOption.COPY_ATTRIBUTES);
        } catch (IOException thrown) {
            throw new UncheckedIOException(thrown);
        }
    }

    private static void remove(Path folder) throws IOException {
        List<Path> all;
        try (Stream<Path> walk = Files.walk(folder)) {
            all = walk.sorted(Comparator.reverseOrder()).toList();
        }
        for (Path path : all) {
            Files.delete(path);
        }
    }
}
