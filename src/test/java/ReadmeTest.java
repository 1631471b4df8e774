import java.io.IOException;
import java.io.StringWriter;
import java.lang.reflect.Method;
import java.lang.reflect.Modifier;
import java.net.URI;
import java.net.URL;
import java.net.URLClassLoader;
import java.nio.file.Files;
import java.nio.file.Path;
import java.util.ArrayList;
import java.util.List;
import java.util.regex.Matcher;
import java.util.regex.Pattern;
import java.util.stream.Stream;
import javax.tools.JavaCompiler;
import javax.tools.JavaFileObject;
import javax.tools.SimpleJavaFileObject;
import javax.tools.ToolProvider;

/**
 * The examples of README.md, as one run: each compiles as it stands there, and answers what
 * stands behind it; and each method of the face has one.
 */
public final class ReadmeTest {
    private static final Path README = Path.of("README.md");
    private static final Path TESTS = Path.of("src/test/java");
    private static final String EXAMPLES = "ReadmeExamples";
    /** A statement of the page, with the answer that it shows. */
    private static final Pattern SHOWN = Pattern.compile("(.*);\\s*// (.*)");
    private static final Pattern DECLARATION = Pattern.compile("(?:int|boolean) (\\w+) = .*");

    private static final Check check = new Check();

    public static void main(String[] args) throws Exception {
        List<String> page = Files.readAllLines(README);
        List<String> examples = examples(page);
        eachMethodIsShown(String.join("\n", examples));
        eachTestIsNamed(String.join("\n", page));
        runExamples(program(examples));
        check.end();
    }

    /** Called by the examples' own class. */
    public static void shown(String line, Object got, Object due) {
        check.equal("README.md: " + line, got, due);
    }

    private static List<String> examples(List<String> page) {
        List<String> examples = new ArrayList<>();
        boolean isInside = false;
        for (String line : page) {
            if (line.startsWith("```")) {
                isInside = line.equals("```java");
            } else if (isInside && !line.isBlank()) {
                examples.add(line);
            }
        }
        return examples;
    }

    private static void eachMethodIsShown(String examples) {
        for (Method method : RomanCalendar.class.getDeclaredMethods()) {
            if (Modifier.isPublic(method.getModifiers())) {
                String call = "calendar." + method.getName() + "(";
                check.yes("README.md shows " + call + "..)", examples.contains(call));
            }
        }
    }

    private static void eachTestIsNamed(String page) throws IOException {
        try (Stream<Path> files = Files.list(TESTS)) {
            for (Path file : (Iterable<Path>) files::iterator) {
                String name = file.getFileName().toString().replace(".java", "");
                if (name.endsWith("Test")) {
                    check.yes("README.md names " + name, page.contains("| `" + name + "` |"));
                }
            }
        }
    }

    private static String program(List<String> examples) {
        StringBuilder program = new StringBuilder("public final class " + EXAMPLES + " {\n"
                + "    public static void run() {\n");
        for (String line : examples) {
            program.append(statement(line)).append('\n');
        }
        return program.append("    }\n}\n").toString();
    }

    private static String statement(String line) {
        Matcher shown = SHOWN.matcher(line);
        if (!shown.matches()) {
            return line;
        }
        String code = shown.group(1);
        String answer = shown.group(2);
        String start = "ReadmeTest.shown(\"" + line + "\", ";
        if (answer.startsWith("throws ")) {
            return "try { " + start + code + ", \"" + answer + "\"); }"
                    + " catch (RuntimeException e) { " + start
                    + "\"throws \" + e.getClass().getSimpleName(), \"" + answer + "\"); }";
        }
        String due = answer.matches("[A-Z]+") ? "RomanCalendar." + answer : answer;
        Matcher declaration = DECLARATION.matcher(code);
        if (declaration.matches()) {
            return code + "; " + start + declaration.group(1) + ", " + due + ");";
        }
        return start + code + ", " + due + ");";
    }

    private static void runExamples(String program) throws Exception {
        Path out = Files.createTempDirectory(EXAMPLES);
        try {
            if (compile(program, out)) {
                URL[] places = {out.toUri().toURL()};
                try (URLClassLoader loader = new URLClassLoader(places)) {
                    loader.loadClass(EXAMPLES).getMethod("run").invoke(null);
                }
            }
        } finally {
            Files.deleteIfExists(out.resolve(EXAMPLES + ".class"));
            Files.delete(out);
        }
    }

    private static boolean compile(String program, Path out) {
        JavaCompiler compiler = ToolProvider.getSystemJavaCompiler();
        URI name = URI.create("string:///" + EXAMPLES + ".java");
        JavaFileObject source = new SimpleJavaFileObject(name, JavaFileObject.Kind.SOURCE) {
            @Override
            public CharSequence getCharContent(boolean ignoreEncodingErrors) {
                return program;
            }
        };
        List<String> options = List.of("-d", out.toString(),
                "-classpath", System.getProperty("java.class.path"));
        StringWriter faults = new StringWriter();
        boolean isCompiled =
                compiler.getTask(faults, null, null, options, null, List.of(source)).call();
        check.equal("README.md compiles", faults.toString(), "");
        return isCompiled;
    }
}
