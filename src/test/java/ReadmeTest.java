import java.io.File;
import java.io.IOException;
import java.io.UncheckedIOException;
import java.lang.reflect.Method;
import java.lang.reflect.Modifier;
import java.net.URL;
import java.net.URLClassLoader;
import java.nio.file.Files;
import java.nio.file.Path;
import java.util.ArrayList;
import java.util.List;
import java.util.regex.Matcher;
import java.util.regex.Pattern;
import javax.tools.JavaCompiler;
import javax.tools.ToolProvider;

/** The calls that README.md shows, compiled and run as they stand, answer what it says. */
public final class ReadmeTest {
    private static final Pattern MADE = Pattern.compile("RingMasters \\w+ = new RingMasters\\(\\);");
    private static final Pattern CALL = Pattern.compile(
        "(?:(?:int|boolean) (\\w+) = )?(rings\\.(\\w+)\\([^;]*\\)); +"
            + "// (-?\\d+|true|false|throws \\w+)(?:: .+)?");
    private static final String NAME = "ReadmeCalls";

    private static final List<String> calls = new ArrayList<>();
    private static final List<String> names = new ArrayList<>();
    private static final List<String> due = new ArrayList<>();
    private static final StringBuilder program = new StringBuilder();
    private static int wrong = 0;

    public static void main(String[] args) throws IOException {
        List<String> readme = Files.readAllLines(Path.of("README.md"));
        for (String line : javaLines(readme)) {
            write(line);
        }
        compareAnswers();
        everyMethodIsShown();
        everyRefusalIsShown();
        everyTestIsNamed(String.join("\n", readme));
        System.out.println(wrong == 0 ? due.size() + " calls of README.md answer what it says"
            : wrong + " things of README.md are not as due");
        if (wrong != 0) {
            System.exit(1);
        }
    }

    private static void tell(String fault) {
        wrong++;
        System.out.println("README.md: " + fault);
    }

    private static List<String> javaLines(List<String> readme) {
        List<String> lines = new ArrayList<>();
        boolean inside = false;
        for (String line : readme) {
            if (line.startsWith("```")) {
                inside = line.equals("```java");
            } else if (inside && !line.isBlank()) {
                lines.add(line);
            }
        }
        return lines;
    }

    /** A line becomes one of the program; one that gives no answer would stand untested. */
    private static void write(String line) {
        if (MADE.matcher(line).matches()) {
            program.append(line).append('\n');
            return;
        }
        Matcher call = CALL.matcher(line);
        if (!call.matches()) {
            tell("no call with an answer: " + line);
            return;
        }
        calls.add(call.group(2));
        names.add(call.group(3));
        due.add(call.group(4));
        if (call.group(1) != null) {
            program.append(line).append("\ngot.add(\"\" + ").append(call.group(1)).append(");\n");
        } else {
            program.append("try { got.add(\"\" + ").append(call.group(2)).append("); }")
                .append(" catch (RuntimeException e)")
                .append(" { got.add(\"throws \" + e.getClass().getSimpleName()); }\n");
        }
    }

    private static void compareAnswers() {
        List<String> got = new ArrayList<>();
        try {
            runProgram(got);
        } catch (ReflectiveOperationException e) {
            tell("its calls ended with " + (e.getCause() == null ? e : e.getCause()));
        }
        for (int i = 0; i < due.size(); i++) {
            String answer = i < got.size() ? got.get(i) : "nothing";
            if (!answer.equals(due.get(i))) {
                tell(calls.get(i) + " answered " + answer + ", told is " + due.get(i));
            }
        }
    }

    private static void runProgram(List<String> got) throws ReflectiveOperationException {
        try {
            Path directory = Files.createTempDirectory("readme");
            Path source = directory.resolve(NAME + ".java");
            Files.writeString(source, "public final class " + NAME + " {\n"
                + "public static void run(java.util.List<String> got) {\n" + program + "}\n}\n");
            try {
                if (compiles(source)) {
                    runCompiled(directory, got);
                }
            } finally {
                Files.deleteIfExists(directory.resolve(NAME + ".class"));
                Files.delete(source);
                Files.delete(directory);
            }
        } catch (IOException e) {
            throw new UncheckedIOException(e);
        }
    }

    private static void runCompiled(Path directory, List<String> got)
            throws IOException, ReflectiveOperationException {
        URL[] place = {directory.toUri().toURL()};
        try (URLClassLoader loader =
                new URLClassLoader(place, ReadmeTest.class.getClassLoader())) {
            loader.loadClass(NAME).getMethod("run", List.class).invoke(null, got);
        }
    }

    private static boolean compiles(Path source) {
        JavaCompiler compiler = ToolProvider.getSystemJavaCompiler();
        if (compiler == null) {
            tell("there is no compiler to try its calls with");
            return false;
        }
        int code = compiler.run(null, null, null, "-cp", System.getProperty("java.class.path"),
            "-d", source.getParent().toString(), source.toString());
        if (code != 0) {
            tell("its calls do not compile");
        }
        return code == 0;
    }

    private static void everyMethodIsShown() {
        for (Method m : RingMasters.class.getDeclaredMethods()) {
            if (Modifier.isPublic(m.getModifiers()) && !names.contains(m.getName())) {
                tell(m.getName() + " is not shown");
            }
        }
    }

    private static void everyRefusalIsShown() {
        for (String name : new String[] {"IndexOutOfBoundsException", "IllegalStateException",
            "IllegalArgumentException"}) {
            if (!due.contains("throws " + name)) {
                tell("no call is shown that throws " + name);
            }
        }
    }

    private static void everyTestIsNamed(String readme) {
        if (!readme.contains(".ci/run")) {
            tell("how to run the tests is not told");
        }
        File[] tests = new File("src/test/java").listFiles();
        for (File test : tests == null ? new File[0] : tests) {
            String name = test.getName().replace(".java", "");
            if (!readme.contains("`" + name + "`")) {
                tell(name + " is not named");
            }
        }
    }
}
