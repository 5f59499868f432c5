import java.io.IOException;
import java.lang.reflect.Method;
import java.lang.reflect.Modifier;
import java.net.URL;
import java.net.URLClassLoader;
import java.nio.file.Files;
import java.nio.file.Path;
import java.util.ArrayList;
import java.util.Comparator;
import java.util.List;
import java.util.regex.Matcher;
import java.util.regex.Pattern;
import java.util.stream.Stream;
import javax.tools.ToolProvider;

/** README.md: its examples are compiled and asked, and it tells of each call and of each test. */
public final class ReadmeTest {
    private static final Path README = Path.of("README.md");
    private static final Path TESTS = Path.of("src/test/java");
    private static final String NAME = "ReadmeExamples";
    // A statement with a comment that begins with what it answers or throws.
    private static final Pattern ASKED = Pattern.compile("(int (\\w+) = )?(.*);\\s*// ([-.\\w]+): .*");

    public static void main(String[] args) throws IOException, ReflectiveOperationException {
        String page = Files.readString(README);
        calls(page);
        tests(page);
        examples(page);
        Check.end();
    }

    private static void calls(String page) {
        for (Method method : VisitBooking.class.getDeclaredMethods()) {
            if (Modifier.isPublic(method.getModifiers())) {
                Check.isTrue("it tells of " + method.getName(), page.contains("`" + method.getName() + "`"));
            }
        }
    }

    private static void tests(String page) throws IOException {
        int found = 0;
        try (Stream<Path> files = Files.list(TESTS)) {
            for (Path file : files.toList()) {
                String name = file.getFileName().toString().replace(".java", "");
                if (name.endsWith("Test")) {
                    found++;
                    Check.isTrue("it tells of " + name, page.contains("\n| " + name + " |"));
                }
            }
        }
        Check.isTrue("tests are found", found > 0);
        Matcher told = Pattern.compile("\n\\| (\\w+Test) \\|").matcher(page);
        while (told.find()) {
            Check.isTrue("there is " + told.group(1), Files.exists(TESTS.resolve(told.group(1) + ".java")));
        }
    }

    /** All examples are one program, in the order of the page. */
    private static void examples(String page) throws IOException, ReflectiveOperationException {
        List<String> body = new ArrayList<>();
        String[] blocks = page.split("```");
        for (int block = 1; block < blocks.length; block += 2) {
            for (String line : blocks[block].replaceFirst("java\n", "").split("\n")) {
                body.add(asked(line));
            }
        }
        long asked = body.stream().filter(line -> line.contains("Check.")).count();
        Check.isTrue("examples are found, " + asked, asked > 20);
        run("public final class " + NAME + " { public static void main(String[] args) {\n"
                + String.join("\n", body) + "\nCheck.end(); } }\n");
    }

    private static String asked(String line) {
        Matcher parts = ASKED.matcher(line);
        if (!parts.matches()) {
            return line;
        }
        String what = "\"" + parts.group(3).replace("\"", "\\\"") + "\"";
        String answer = parts.group(4);
        if (answer.endsWith("Exception")) {
            return "Check.fails(" + what + ", () -> " + parts.group(3) + ", " + answer + ".class);";
        }
        String due = ", \"" + answer + "\");";
        if (parts.group(1) == null) {
            return "Check.due(" + what + ", () -> " + parts.group(3) + due;
        }
        return parts.group(1) + parts.group(3) + "; Check.due(" + what + ", () -> " + parts.group(2) + due;
    }

    /** Compiles a program and runs it with classes of its own; it ends the machine if an answer is wrong. */
    private static void run(String program) throws IOException, ReflectiveOperationException {
        Path folder = Files.createTempDirectory("readme");
        try {
            Path file = Files.writeString(folder.resolve(NAME + ".java"), program);
            String classes = System.getProperty("java.class.path");
            int answer = ToolProvider.getSystemJavaCompiler().run(null, null, null,
                    "-cp", classes, "-d", folder.toString(), file.toString());
            Check.isTrue("the examples compile", answer == 0);
            if (answer == 0) {
                URL[] places = {folder.toUri().toURL(), Path.of(classes).toUri().toURL()};
                try (URLClassLoader loader = new URLClassLoader(places, ClassLoader.getPlatformClassLoader())) {
                    loader.loadClass(NAME).getMethod("main", String[].class).invoke(null, (Object) new String[0]);
                }
            }
        } finally {
            remove(folder);
        }
    }

    private static void remove(Path folder) throws IOException {
        try (Stream<Path> files = Files.walk(folder)) {
            for (Path file : files.sorted(Comparator.reverseOrder()).toList()) {
                Files.delete(file);
            }
        }
    }
}
