import java.io.IOException;
import java.net.URL;
import java.net.URLClassLoader;
import java.nio.file.DirectoryStream;
import java.nio.file.Files;
import java.nio.file.Path;
import java.util.regex.Matcher;
import java.util.regex.Pattern;
import javax.tools.JavaCompiler;
import javax.tools.ToolProvider;

/** The run of calls in README.md gives the answers that stand behind them there, and all tests are named there. */
public final class ReadmeTest {
    private static final Path README = Path.of("README.md");
    private static final Path TESTS = Path.of("src/test/java");
    private static final Pattern CALL = Pattern.compile("^\\s*x\\.(\\w+\\(.*\\));(.*)$");
    private static final Pattern ANSWER = Pattern.compile("^\\s*// (-?\\d+|BAD|FULL|FINDING|STATE|NONE)(:.*)?$");
    /** A README with fewer has lost its run. */
    private static final int FEWEST_CALLS = 20;

    private static int wrong = 0;
    private static int calls = 0;

    private static void check(boolean holds, String what) {
        if (!holds) {
            wrong++;
            System.out.println(what);
        }
    }

    public static void main(String[] args) throws IOException, ReflectiveOperationException {
        String readme = Files.readString(README);
        String block = codeOf(readme);
        String program = programOf(block);
        check(calls >= FEWEST_CALLS, "calls in README.md: " + calls);
        if (wrong == 0) {
            wrong += run(program);
        }
        namesTests(readme);
        System.out.println(calls + " calls of README.md, " + wrong + " wrong");
        if (wrong != 0) {
            System.exit(1);
        }
    }

    private static String codeOf(String readme) {
        int from = readme.indexOf("```java\n");
        int to = from < 0 ? -1 : readme.indexOf("```", from + 8);
        check(to >= 0, "README.md has no code");
        return to < 0 ? "" : readme.substring(from + 8, to);
    }

    /** Each call is held against the answer behind it. */
    private static String programOf(String block) {
        StringBuilder program = new StringBuilder("public final class ReadmeRun {\n    static int wrong = 0;\n"
            + "    static void due(String call, long got, long want) {\n        if (got != want) {\n            wrong++;\n"
            + "            System.out.println(\"README.md: \" + call + \" answered \" + got + \", it says \" + want);\n        }\n    }\n"
            + "    public static int run() {\n");
        for (String line : block.split("\n")) {
            Matcher call = CALL.matcher(line);
            if (!call.find()) {
                program.append(line).append('\n');
                continue;
            }
            calls++;
            Matcher answer = ANSWER.matcher(call.group(2));
            boolean told = answer.find();
            check(told, "no answer stands behind it: " + line);
            if (told) {
                String want = Character.isLetter(answer.group(1).charAt(0)) ? "HalvedCow." + answer.group(1) : answer.group(1);
                program.append("due(\"").append(call.group(1)).append("\", x.").append(call.group(1)).append(", ").append(want).append(");\n");
            }
        }
        return program.append("return wrong;\n    }\n}\n").toString();
    }

    private static int run(String program) throws IOException, ReflectiveOperationException {
        Path place = Files.createTempDirectory("readme");
        Path source = place.resolve("ReadmeRun.java");
        Files.writeString(source, program);
        JavaCompiler compiler = ToolProvider.getSystemJavaCompiler();
        check(compiler != null, "no compiler");
        try {
            if (compiler == null || compiler.run(null, null, null, "-cp", System.getProperty("java.class.path"), "-d", place.toString(), source.toString()) != 0) {
                return 1;
            }
            try (URLClassLoader loader = new URLClassLoader(new URL[] {place.toUri().toURL()}, ReadmeTest.class.getClassLoader())) {
                return (Integer) loader.loadClass("ReadmeRun").getMethod("run").invoke(null);
            }
        } finally {
            try (DirectoryStream<Path> files = Files.newDirectoryStream(place)) {
                for (Path file : files) {
                    Files.delete(file);
                }
            }
            Files.delete(place);
        }
    }

    private static void namesTests(String readme) throws IOException {
        try (DirectoryStream<Path> files = Files.newDirectoryStream(TESTS, "*.java")) {
            for (Path file : files) {
                check(readme.contains("`src/test/java/" + file.getFileName() + "`"), "README.md does not name " + file);
            }
        }
        check(readme.contains(".ci/run"), "README.md does not say how to run the tests");
    }
}
