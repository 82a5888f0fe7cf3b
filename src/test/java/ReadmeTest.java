import java.io.IOException;
import java.net.URL;
import java.net.URLClassLoader;
import java.nio.file.DirectoryStream;
import java.nio.file.Files;
import java.nio.file.Path;
import java.util.ArrayList;
import java.util.List;
import java.util.concurrent.Callable;
import java.util.regex.Matcher;
import java.util.regex.Pattern;
import javax.tools.ToolProvider;

/**
 * The Java examples of README.md compile as they stand there, and each call answers what its comment says: the answer,
 * or "throws" and the exception, and behind a colon anything. README.md also names every test that .ci/run runs.
 */
public final class ReadmeTest {
    private static final Pattern CALL = Pattern.compile("(house\\.\\w+\\(.*\\)); +// (throws \\w+|[^ :]+)(:.*)?");
    private static final String FIRST_LINE = "Wighall house = new Wighall();";

    private static int answers;
    private static int wrong;

    public static void main(String[] args) throws Exception {
        List<String> readme = Files.readAllLines(Path.of("README.md"));
        List<List<String>> examples = examples(readme);
        run(program(examples));
        lookForTests(String.join("\n", readme));
        if (answers == 0) {
            wrong("README.md has no example");
        }
        System.out.println(examples.size() + " examples, " + answers + " answers, " + wrong + " wrong");
        if (wrong != 0) {
            System.exit(1);
        }
    }

    private static void wrong(String what) {
        wrong++;
        System.out.println(what);
    }

    private static List<List<String>> examples(List<String> readme) {
        List<List<String>> examples = new ArrayList<>();
        List<String> open = null;
        for (String line : readme) {
            if (line.equals("```java")) {
                open = new ArrayList<>();
                examples.add(open);
            } else if (line.startsWith("```")) {
                open = null;
            } else if (open != null && !line.isBlank()) {
                open.add(line);
            }
        }
        return examples;
    }

    /** Each line of an example becomes a call of due, in a block with a house of its own. */
    private static String program(List<List<String>> examples) {
        StringBuilder program = new StringBuilder("public final class ReadmeExamples {\n");
        program.append("    public static void run() {\n");
        for (List<String> example : examples) {
            program.append("{\n");
            for (String line : example) {
                program.append(statement(line)).append('\n');
            }
            program.append("}\n");
        }
        return program.append("    }\n}\n").toString();
    }

    private static String statement(String line) {
        Matcher call = CALL.matcher(line);
        if (call.matches()) {
            return "ReadmeTest.due(\"" + call.group(1) + "\", () -> " + call.group(1) + ", \"" + call.group(2) + "\");";
        }
        if (!line.equals(FIRST_LINE)) {
            wrong("no call with an answer: " + line);
            return "";
        }
        return line;
    }

    private static void run(String program) throws Exception {
        Path folder = Files.createTempDirectory("readme");
        Path source = folder.resolve("ReadmeExamples.java");
        try {
            Files.writeString(source, program);
            int failed = ToolProvider.getSystemJavaCompiler().run(null, System.out, System.out, "-cp",
                    System.getProperty("java.class.path"), "-d", folder.toString(), source.toString());
            if (failed != 0) {
                wrong("the examples do not compile");
                return;
            }
            try (URLClassLoader loader = new URLClassLoader(new URL[] {folder.toUri().toURL()})) {
                loader.loadClass("ReadmeExamples").getMethod("run").invoke(null);
            }
        } finally {
            Files.deleteIfExists(source);
            Files.deleteIfExists(folder.resolve("ReadmeExamples.class"));
            Files.delete(folder);
        }
    }

    /** What an example's line calls. */
    public static void due(String line, Callable<Object> call, String want) {
        answers++;
        String got;
        try {
            Object answer = call.call();
            got = answer instanceof Character ? "'" + answer + "'" : String.valueOf(answer);
        } catch (Exception e) {
            got = "throws " + e.getClass().getSimpleName();
        }
        if (!got.equals(want)) {
            wrong(line + " answered " + got + ", README.md says " + want);
        }
    }

    private static void lookForTests(String readme) throws IOException {
        try (DirectoryStream<Path> tests = Files.newDirectoryStream(Path.of("src/test/java"), "*Test.java")) {
            for (Path test : tests) {
                String name = test.getFileName().toString().replace(".java", "");
                if (!readme.contains("`" + name + "`")) {
                    wrong("README.md does not name " + name);
                }
            }
        }
    }
}
