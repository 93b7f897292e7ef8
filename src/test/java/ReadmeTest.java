import java.io.IOException;
import java.io.StringWriter;
import java.lang.reflect.InvocationTargetException;
import java.net.URL;
import java.net.URLClassLoader;
import java.nio.file.Files;
import java.nio.file.Path;
import java.util.Comparator;
import java.util.List;
import java.util.function.BiConsumer;
import java.util.regex.Matcher;
import java.util.regex.Pattern;
import javax.tools.JavaCompiler;
import javax.tools.ToolProvider;

/** What README.md says of the class's use and of its tests holds as it stands. */
public final class ReadmeTest {
    private static final Due DUE = new Due("ReadmeTest");
    private static final Pattern BLOCK = Pattern.compile("(?s)```java\n(.*?)```");
    /** A call and, behind it, what it answers. */
    private static final Pattern TOLD = Pattern.compile("(x\\.\\w+\\(.*?\\));\\s*// (-?\\d+)(: .*)");
    private static final Pattern CALL = Pattern.compile("\\bx\\.(\\w+)\\(");

    public static void main(String[] args) throws Exception {
        String readme = Files.readString(Path.of("README.md"));
        Matcher block = BLOCK.matcher(readme);
        holds("there is an example", block.find());
        String example = block.group(1);
        holds("it is the only one", !block.find());
        tellsAll(example);
        run(asProgram(example));
        tests(readme);
        DUE.end();
    }

    /** What it must say how to do: making, telling, letting go by, asking, and each refusal. */
    private static void tellsAll(String example) {
        for (String needed : new String[] {"new SmellInTheHouse()", "x.feed(", "x.house()", "x.go(", "x.behind(", "x.says(",
            "// -1:", "// -2:", "// -3:", "// -4:", "// -6:", "// 1000000001:", "// 4000000000000000001:", "// -9:"}) {
            holds("the example tells " + needed, example.contains(needed));
        }
        for (String line : example.split("\n")) {
            // Letters are fed in a loop: their answers are told for a few.
            boolean isLoop = line.startsWith("    ");
            holds("an answer is told in: " + line, isLoop || !CALL.matcher(line).find() || TOLD.matcher(line).matches());
        }
    }

    private static String asProgram(String example) {
        StringBuilder body = new StringBuilder();
        for (String line : example.split("\n")) {
            Matcher told = TOLD.matcher(line);
            if (told.matches()) {
                String call = told.group(1);
                body.append("due.accept(\"").append(call.replace("\"", "\\\"")).append("\", new long[] {")
                        .append(call).append(", ").append(told.group(2)).append("L});\n");
            } else {
                body.append(line).append('\n');
            }
        }
        return "public final class Example implements java.util.function.Consumer<"
                + "java.util.function.BiConsumer<String, long[]>> {\n"
                + "public void accept(java.util.function.BiConsumer<String, long[]> due) {\n" + body + "}\n}\n";
    }

    private static void run(String program) throws IOException, ReflectiveOperationException {
        Path folder = Files.createTempDirectory("readme");
        try {
            Path file = folder.resolve("Example.java");
            Files.writeString(file, program);
            JavaCompiler javac = ToolProvider.getSystemJavaCompiler();
            StringWriter said = new StringWriter();
            boolean compiled = javac.getTask(said, null, null,
                    List.of("--release", "17", "-d", folder.toString(), "-cp", System.getProperty("java.class.path")), null,
                    javac.getStandardFileManager(null, null, null).getJavaFileObjects(file)).call();
            holds("the example compiles " + said, compiled);
            if (compiled) {
                answers(folder);
            }
        } finally {
            try (var made = Files.walk(folder)) {
                made.sorted(Comparator.reverseOrder()).forEach(path -> path.toFile().delete());
            }
        }
    }

    @SuppressWarnings("unchecked")
    private static void answers(Path folder) throws IOException, ReflectiveOperationException {
        int[] calls = {0};
        BiConsumer<String, long[]> due = (call, answers) -> {
            calls[0]++;
            DUE.is(call, answers[0], answers[1]);
        };
        try (URLClassLoader loader = new URLClassLoader(new URL[] {folder.toUri().toURL()})) {
            Object example = loader.loadClass("Example").getDeclaredConstructor().newInstance();
            ((java.util.function.Consumer<BiConsumer<String, long[]>>) example).accept(due);
        } catch (InvocationTargetException e) {
            holds("the example runs: " + e.getCause(), false);
        }
        holds("calls are looked at: " + calls[0], calls[0] >= 40);
    }

    private static void tests(String readme) throws IOException {
        holds("the command is told", readme.contains("\n    bash .ci/run\n"));
        holds("the command is there", Files.isExecutable(Path.of(".ci/run")));
        try (var files = Files.list(Path.of("src/test/java"))) {
            for (Path file : files.sorted().toList()) {
                holds("it tells of " + file, readme.contains(file.getFileName().toString() + "`"));
            }
        }
        Matcher named = Pattern.compile("(?:src/test/java/)?(\\w+\\.java)`").matcher(readme);
        while (named.find()) {
            String name = named.group(1);
            boolean isThere = Files.exists(Path.of("src/test/java", name)) || Files.exists(Path.of("src/main/java", name));
            holds("there is " + name, isThere);
        }
    }

    private static void holds(String what, boolean so) {
        DUE.is(what, so ? 1 : 0, 1);
    }
}
