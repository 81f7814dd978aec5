import java.io.IOException;
import java.io.UncheckedIOException;
import java.lang.reflect.Method;
import java.lang.reflect.Modifier;
import java.net.URL;
import java.net.URLClassLoader;
import java.nio.file.Files;
import java.nio.file.Path;
import java.util.ArrayList;
import java.util.Comparator;
import java.util.List;
import java.util.regex.Matcher;
import java.util.regex.Pattern;
import java.util.stream.Stream;
import javax.tools.ToolProvider;

/** README.md's example, compiled and run from the project's folder: it uses every call, and each answers what is told. */
public final class ReadmeTest {
    /** A call, with the variable that keeps its answer if there is one, and the answer ahead of what is said of it. */
    private static final Pattern LINE =
        Pattern.compile("(?:int (?<kept>\\w+) = )?(?<call>panel\\..*\\));\\s+// (?<answer>(?:throws )?[^\\s:]+)(?::.*)?");

    private final List<String> calls = new ArrayList<>();
    private final List<String> due = new ArrayList<>();
    private final StringBuilder body = new StringBuilder();

    public static void main(String[] args) throws Exception {
        ReadmeTest readme = new ReadmeTest();
        readme.readExample();
        readme.usesEveryCall();
        readme.answersAsTold();
        Check.end();
    }

    private void readExample() throws IOException {
        String text = Files.readString(Path.of("README.md"));
        String[] blocks = text.split("```java\n", -1);
        Check.due("examples in README.md", blocks.length - 1, 1);
        if (blocks.length > 1) {
            blocks[1].split("```", -1)[0].lines().filter(line -> !line.isBlank()).forEach(this::readLine);
        }
    }

    private void readLine(String line) {
        Matcher m = LINE.matcher(line);
        if (m.matches()) {
            calls.add(m.group("call"));
            due.add(m.group("answer"));
            String kept = m.group("kept");
            String keeps = kept == null ? "" : kept + " = ";
            body.append(kept == null ? "" : "int " + kept + " = 0;\n");
            body.append("try { got.add(\"\" + (" + keeps + m.group("call") + ")); }\n");
            body.append("catch (RuntimeException e) { got.add(\"throws \" + e.getClass().getSimpleName()); }\n");
        } else {
            Check.yes("a line without an answer makes the panel: " + line, line.startsWith("PanelForms panel = new "));
            body.append(line).append('\n');
        }
    }

    private void usesEveryCall() {
        for (Method m : PanelForms.class.getDeclaredMethods()) {
            if (Modifier.isPublic(m.getModifiers())) {
                Check.yes("the example uses " + m.getName(),
                    calls.stream().anyMatch(call -> call.startsWith("panel." + m.getName() + "(")));
            }
        }
    }

    private void answersAsTold() throws Exception {
        Path folder = Files.createTempDirectory("readme");
        try {
            List<?> got = compileAndRun(folder);
            for (int n = 0; n < calls.size(); n++) {
                Check.same("call " + n + ", " + calls.get(n), n < got.size() ? got.get(n).toString() : "nothing", due.get(n));
            }
        } finally {
            remove(folder);
        }
    }

    private List<?> compileAndRun(Path folder) throws Exception {
        Path source = folder.resolve("Example.java");
        Files.writeString(source, "public final class Example { public static java.util.List<String> answers() {\n"
            + "java.util.List<String> got = new java.util.ArrayList<>();\n" + body + "return got; } }\n");
        int failed = ToolProvider.getSystemJavaCompiler().run(null, null, null,
            "-cp", System.getProperty("java.class.path"), "-d", folder.toString(), source.toString());
        Check.due("the example compiles", failed, 0);
        if (failed != 0) {
            return List.of();
        }
        try (URLClassLoader loader = new URLClassLoader(new URL[] {folder.toUri().toURL()})) {
            return (List<?>) loader.loadClass("Example").getMethod("answers").invoke(null);
        }
    }

    private static void remove(Path folder) throws IOException {
        try (Stream<Path> inside = Files.walk(folder)) {
            inside.sorted(Comparator.reverseOrder()).forEach(path -> {
                try {
                    Files.delete(path);
                } catch (IOException e) {
                    throw new UncheckedIOException(e);
                }
            });
        }
    }
}
