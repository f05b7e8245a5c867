import java.io.File;
import java.io.IOException;
import java.lang.reflect.Method;
import java.lang.reflect.Modifier;
import java.net.URL;
import java.net.URLClassLoader;
import java.nio.file.Files;
import java.nio.file.Path;
import java.util.ArrayList;
import java.util.List;
import java.util.Set;
import java.util.regex.Matcher;
import java.util.regex.Pattern;
import javax.tools.ToolProvider;

/** What README.md says is so: its examples, its table of calls, and its list of tests. */
public final class ReadmeTest {
    private static final Pattern BLOCK = Pattern.compile("(?s)```java\n(.*?)```");
    /** A statement, and behind it its answer: a word, or the exception that it throws. */
    private static final Pattern STEP =
            Pattern.compile("\\s*(?:int (\\w+) = )?(.+);\\s+// (throws \\w+|[-.\\w]+)(?:: .*)?");
    private static final Set<String> UNDOABLE = Set.of("house", "bottles", "lend", "ask", "want",
            "drink", "pass", "set", "run", "goBack");
    private static final String HEAD = "import java.util.List;\n"
            + "import java.util.concurrent.Callable;\n"
            + "public final class ReadmeExamples {\n"
            + "static String answer(Callable<Object> call) {\n"
            + "try { return String.valueOf(call.call()); }\n"
            + "catch (Exception e) { return \"throws \" + e.getClass().getSimpleName(); } }\n"
            + "public static void fill(List<String> answers) {\n";

    private ReadmeTest() {
    }

    /** Puts the example's program behind what there is, and answers what it says is due. */
    private static List<String> program(String example, StringBuilder source) {
        List<String> due = new ArrayList<>();
        source.append("{\n");
        for (String line : example.split("\n")) {
            Matcher step = STEP.matcher(line);
            if (!step.matches()) {
                source.append(line).append('\n');
                continue;
            }
            due.add(step.group(3));
            if (step.group(1) != null) {
                source.append("int ").append(step.group(1)).append(" = ").append(step.group(2));
                source.append(";\nanswers.add(String.valueOf(").append(step.group(1)).append("));\n");
            } else {
                source.append("answers.add(answer(() -> ").append(step.group(2)).append("));\n");
            }
        }
        source.append("}\n");
        return due;
    }

    private static List<String> answers(String source) throws Exception {
        Path folder = Files.createTempDirectory("readme");
        Path file = folder.resolve("ReadmeExamples.java");
        List<String> answers = new ArrayList<>();
        try {
            Files.writeString(file, source);
            int failed = ToolProvider.getSystemJavaCompiler().run(null, null, null, "-proc:none", "-cp",
                    System.getProperty("java.class.path"), "-d", folder.toString(), file.toString());
            Check.same("compiling the examples", 0, failed);
            if (failed == 0) {
                try (URLClassLoader loader = new URLClassLoader(new URL[] {folder.toUri().toURL()})) {
                    loader.loadClass("ReadmeExamples").getMethod("fill", List.class)
                            .invoke(null, answers);
                }
            }
        } finally {
            for (File made : folder.toFile().listFiles()) {
                made.delete();
            }
            folder.toFile().delete();
        }
        return answers;
    }

    private static void examples(String page) throws Exception {
        StringBuilder source = new StringBuilder(HEAD);
        List<String> due = new ArrayList<>();
        Matcher block = BLOCK.matcher(page);
        while (block.find()) {
            due.addAll(program(block.group(1), source));
        }
        List<String> got = answers(source.append("}\n}\n").toString());
        Check.same("there are examples", 1, due.size() > 20 ? 1 : 0);
        Check.same("answers of the examples", due.size(), got.size());
        for (int step = 0; step < due.size() && step < got.size(); step++) {
            Check.count();
            if (!due.get(step).equals(got.get(step))) {
                Check.fail("answer " + (step + 1) + " of the examples is " + got.get(step)
                        + ", README.md says " + due.get(step));
            }
        }
    }

    private static String throwsOf(Method call) {
        List<String> names = new ArrayList<>();
        for (Class<?> exception : call.getExceptionTypes()) {
            names.add("`" + exception.getSimpleName() + "`");
        }
        return String.join(", ", names);
    }

    private static void table(String page) {
        int rows = 0;
        Matcher row = Pattern.compile("(?m)^\\| `\\w+\\(").matcher(page);
        while (row.find()) {
            rows++;
        }
        int calls = 0;
        for (Method call : CorkPermits.class.getDeclaredMethods()) {
            if (!Modifier.isPublic(call.getModifiers())) {
                continue;
            }
            calls++;
            int parameters = call.getParameterCount();
            String signature = parameters == 0 ? "" : "\\w+(, \\w+){" + (parameters - 1) + "}";
            String undoable = UNDOABLE.contains(call.getName()) ? "yes" : "no";
            Pattern due = Pattern.compile("(?m)^\\| `" + call.getName() + "\\(" + signature
                    + "\\)` \\| .+ \\| " + undoable + " \\| ?" + throwsOf(call) + " ?\\|$");
            Check.same("rows of " + call.getName(), 1, due.matcher(page).find() ? 1 : 0);
        }
        Check.same("rows of the table", calls, rows);
    }

    private static void tests(String page) throws IOException {
        Matcher named = Pattern.compile("`(\\w+Test)`").matcher(page);
        while (named.find()) {
            Path file = Path.of("src/test/java", named.group(1) + ".java");
            Check.same("there is " + file, 1, Files.exists(file) ? 1 : 0);
        }
        for (File file : new File("src/test/java").listFiles()) {
            String name = file.getName().replace(".java", "");
            if (name.endsWith("Test")) {
                Check.same("README.md names " + name, 1, page.contains("`" + name + "`:")
                        || page.contains("`" + name + "` (") ? 1 : 0);
            }
        }
        Check.same(".ci/run can be run", 1, Files.isExecutable(Path.of(".ci/run")) ? 1 : 0);
    }

    public static void main(String[] args) throws Exception {
        String page = Files.readString(Path.of("README.md"));
        examples(page);
        table(page);
        tests(page);
        Check.end();
    }
}
