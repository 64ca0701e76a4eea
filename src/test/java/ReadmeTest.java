import java.io.IOException;
import java.io.UncheckedIOException;
import java.lang.reflect.Method;
import java.lang.reflect.Modifier;
import java.net.URL;
import java.net.URLClassLoader;
import java.nio.file.Files;
import java.nio.file.Path;
import java.util.ArrayList;
import java.util.List;
import java.util.function.BiConsumer;
import java.util.regex.Matcher;
import java.util.regex.Pattern;
import javax.tools.ToolProvider;

/** What README.md shows of the class's use: the lines themselves are compiled and run. */
public final class ReadmeTest {
    private static final Due DUE = new Due("ReadmeTest");
    private static final Pattern EXAMPLE = Pattern.compile("```java\n(.*?)```", Pattern.DOTALL);

    /** A call, and behind it the answer that it has to give. */
    private static final Pattern CALL = Pattern.compile("(x\\.\\w+\\(.*\\));\\s+// (\\w+)(:.*)?");
    private static final Pattern NO_ANSWER = Pattern.compile("WideHash x = new WideHash\\(\\);|x\\.init\\(\\);|//.*|");

    public static void main(String[] args) {
        List<String> lines = example();
        DUE.test("README: a line is a call with its answer, or has none", () -> eachLineIsKnown(lines));
        DUE.test("README: each method of the face is shown", () -> eachMethodIsShown(lines));
        DUE.test("README: what stands behind a call is its answer", () -> eachCallAnswers(lines));
        DUE.end();
    }

    private static List<String> example() {
        try {
            Matcher example = EXAMPLE.matcher(Files.readString(Path.of("README.md")));
            List<String> lines = new ArrayList<>();
            while (example.find()) {
                lines.addAll(example.group(1).lines().toList());
            }
            return lines;
        } catch (IOException e) {
            throw new UncheckedIOException(e);
        }
    }

    /** Else a line that this test can't read would be run without a look at its answer. */
    private static void eachLineIsKnown(List<String> lines) {
        for (String line : lines) {
            boolean known = CALL.matcher(line).matches() || NO_ANSWER.matcher(line).matches();
            DUE.is("'" + line + "' is known", known, true);
        }
    }

    private static void eachMethodIsShown(List<String> lines) {
        for (Method method : WideHash.class.getDeclaredMethods()) {
            if (Modifier.isPublic(method.getModifiers())) {
                String start = "x." + method.getName() + "(";
                boolean shown = lines.stream().anyMatch(line -> line.startsWith(start));
                DUE.is(method.getName() + " is shown", shown, true);
            }
        }
    }

    private static void eachCallAnswers(List<String> lines) {
        try {
            Path place = Files.createTempDirectory("readme");
            try {
                run(place, program(lines));
            } finally {
                Files.deleteIfExists(place.resolve("Shown.java"));
                Files.deleteIfExists(place.resolve("Shown.class"));
                Files.delete(place);
            }
        } catch (IOException | ReflectiveOperationException e) {
            throw new IllegalStateException(e);
        }
    }

    /** The lines as a program that hands each call's text on, with its answer and the one due. */
    private static String program(List<String> lines) {
        StringBuilder text = new StringBuilder("public final class Shown implements Runnable {\n"
                + "private final java.util.function.BiConsumer<String, Object[]> answers;\n"
                + "public Shown(java.util.function.BiConsumer<String, Object[]> answers) { this.answers = answers; }\n"
                + "public void run() {\n");
        for (String line : lines) {
            Matcher call = CALL.matcher(line);
            text.append(call.matches()
                    ? "answers.accept(\"" + call.group(1) + "\", new Object[] {" + call.group(1) + ", "
                            + call.group(2) + "});"
                    : line).append('\n');
        }
        return text.append("}\n}\n").toString();
    }

    private static void run(Path place, String program) throws IOException, ReflectiveOperationException {
        Path source = Files.writeString(place.resolve("Shown.java"), program);
        int failed = ToolProvider.getSystemJavaCompiler().run(null, null, null, "-proc:none",
                "-cp", System.getProperty("java.class.path"), "-d", place.toString(), source.toString());
        DUE.is("javac of the example", failed, 0);
        if (failed != 0) {
            return;
        }
        BiConsumer<String, Object[]> answers =
                (call, pair) -> DUE.same(call, pair[0].toString(), pair[1].toString());
        try (URLClassLoader shown = new URLClassLoader(new URL[] {place.toUri().toURL()})) {
            Runnable example = (Runnable) shown.loadClass("Shown").getConstructor(BiConsumer.class).newInstance(answers);
            example.run();
        }
    }
}
