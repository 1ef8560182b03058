import java.io.IOException;
import java.lang.reflect.Method;
import java.lang.reflect.Modifier;
import java.net.URL;
import java.net.URLClassLoader;
import java.nio.file.Files;
import java.nio.file.Path;
import java.util.ArrayList;
import java.util.Comparator;
import java.util.List;
import java.util.Set;
import java.util.TreeSet;
import java.util.regex.Matcher;
import java.util.regex.Pattern;
import java.util.stream.Stream;
import javax.tools.ToolProvider;

/**
 * The example of README.md: it compiles against the class as it stands and runs to its end, it makes every call of
 * the face, and each call answers what the comment behind it says. To be run where README.md is.
 */
public final class ReadmeTest {
    private static final Pattern EXAMPLE = Pattern.compile("```java\n(.*?)```", Pattern.DOTALL);
    private static final Pattern A_CALL = Pattern.compile("\\bx\\.(\\w+)\\(");
    // Spaces, at times a variable that keeps the answer, the call, and what it answers up to a colon or the line's end.
    private static final Pattern TOLD_CALL =
            Pattern.compile("( +(?:int \\w+ = )?)(x\\.\\w+\\(.*\\)); +// ([^:]+?)(?::.*)?");
    private static final String THROWS = "throws IndexOutOfBoundsException";
    private static final Checks CHECKS = new Checks();
    private static final Set<String> CALLED = new TreeSet<>();
    private static int toAnswer = 0;
    private static int answered = 0;

    /** Called by the example in which each call was put into a call of this one. */
    public static int due(String call, String want, int got) {
        answered++;
        if (want.equals(THROWS)) {
            CHECKS.yes("README.md: " + call + " throws", false);
        } else {
            CHECKS.due("README.md: " + call, number(want), got);
        }
        return got;
    }

    private static int number(String want) {
        switch (want) {
            case "NONE":
                return LendThreads.NONE;
            case "RANGE":
                return LendThreads.RANGE;
            case "STATE":
                return LendThreads.STATE;
            case "FULL":
                return LendThreads.FULL;
            default:
                return Integer.parseInt(want);
        }
    }

    private static String example() throws IOException {
        Matcher found = EXAMPLE.matcher(Files.readString(Path.of("README.md")));
        String text = found.find() ? found.group(1) : "";
        CHECKS.yes("README.md has one example", !text.isEmpty() && !found.find());
        return text;
    }

    /** The example with each call put into a call of due, which is not reached behind one that throws. */
    private static String withDues(String example) {
        List<String> lines = new ArrayList<>();
        for (String line : example.split("\n")) {
            Matcher call = A_CALL.matcher(line);
            Matcher told = TOLD_CALL.matcher(line);
            if (!call.find()) {
                lines.add(line);
            } else if (told.matches()) {
                CALLED.add(call.group(1));
                toAnswer += told.group(3).equals(THROWS) ? 0 : 1;
                lines.add(told.group(1) + "ReadmeTest.due(\"" + told.group(2) + "\", \"" + told.group(3) + "\", "
                        + told.group(2) + ");");
            } else {
                CHECKS.yes("what it answers stands behind" + line, false);
            }
        }
        return String.join("\n", lines);
    }

    private static void everyCallIsMade() {
        Set<String> face = new TreeSet<>();
        for (Method method : LendThreads.class.getDeclaredMethods()) {
            if (Modifier.isPublic(method.getModifiers())) {
                face.add(method.getName());
            }
        }
        CHECKS.yes("the example calls " + CALLED + " of " + face, CALLED.equals(face));
    }

    private static void compileAndRun(String what, String source) throws IOException {
        Path out = Files.createTempDirectory("readme");
        try {
            Path file = Files.writeString(out.resolve("Example.java"), source);
            int failed = ToolProvider.getSystemJavaCompiler().run(null, null, null, "-d", out.toString(),
                    "-cp", System.getProperty("java.class.path"), file.toString());
            CHECKS.due("javac of " + what, 0, failed);
            if (failed == 0) {
                run(what, out);
            }
        } finally {
            delete(out);
        }
    }

    private static void run(String what, Path classes) throws IOException {
        String thrown = "";
        try (URLClassLoader loader = new URLClassLoader(new URL[] {classes.toUri().toURL()})) {
            Method main = loader.loadClass("Example").getMethod("main", String[].class);
            main.invoke(null, (Object) new String[0]);
        } catch (ReflectiveOperationException e) {
            thrown = e + ", because of " + e.getCause();
        }
        CHECKS.yes(what + " runs to its end " + thrown, thrown.isEmpty());
    }

    private static void delete(Path directory) throws IOException {
        try (Stream<Path> all = Files.walk(directory)) {
            for (Path path : all.sorted(Comparator.reverseOrder()).toList()) {
                Files.delete(path);
            }
        }
    }

    public static void main(String[] args) throws IOException {
        String example = example();
        compileAndRun("the example as it stands", example);
        compileAndRun("the example with what is due", withDues(example));
        CHECKS.due("calls that answered", toAnswer, answered);
        everyCallIsMade();
        CHECKS.end();
    }
}
