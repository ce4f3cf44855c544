import java.io.ByteArrayOutputStream;
import java.io.IOException;
import java.io.PrintStream;
import java.lang.reflect.Method;
import java.lang.reflect.Modifier;
import java.net.URL;
import java.net.URLClassLoader;
import java.nio.file.Files;
import java.nio.file.Path;
import java.util.Set;
import java.util.TreeSet;
import java.util.regex.Matcher;
import java.util.regex.Pattern;
import java.util.stream.Stream;
import javax.tools.ToolProvider;

/** README.md: its program prints what is told there, and its tables are those of the document. */
public final class ReadmeTest {
    private static final Path README = Path.of("README.md");
    private static final Path DOCUMENT = Path.of("../shared/DOC.md");
    private static final Pattern CONSTANT = Pattern.compile("\\b(NONE|BAD|FULL|REFUSED|NOTHING)\\b");
    private static final Check CHECK = new Check();

    public static void main(String[] args) throws IOException, ReflectiveOperationException {
        String readme = Files.readString(README);
        String document = Files.readString(DOCUMENT);
        CHECK.about("README.md");
        CHECK.due("the program prints", printed(block(readme, "java")), block(readme, "text"));
        constants(readme, document);
        errorsOfMethods(readme, document);
        CHECK.end();
    }

    private static String block(String readme, String kind) {
        Matcher found = Pattern.compile("(?s)```" + kind + "\n(.*?)```").matcher(readme);
        return found.find() ? found.group(1) : "";
    }

    /** Compiles a program against the classes of this test, and answers what it prints. */
    private static String printed(String program) throws IOException, ReflectiveOperationException {
        Path folder = Files.createTempDirectory("readme");
        Path source = Files.writeString(folder.resolve("Example.java"), program);
        int code = ToolProvider.getSystemJavaCompiler().run(null, null, null, "-d", folder.toString(),
            "-cp", System.getProperty("java.class.path"), source.toString());
        CHECK.due("the exit code of javac", code, 0);
        ByteArrayOutputStream bytes = new ByteArrayOutputStream();
        PrintStream screen = System.out;
        try (URLClassLoader loader = new URLClassLoader(new URL[] {folder.toUri().toURL()})) {
            System.setOut(new PrintStream(bytes, true));
            loader.loadClass("Example").getMethod("main", String[].class).invoke(null, (Object) new String[0]);
        } finally {
            System.setOut(screen);
            remove(folder);
        }
        return bytes.toString().replace(System.lineSeparator(), "\n");
    }

    private static void remove(Path folder) throws IOException {
        try (Stream<Path> files = Files.list(folder)) {
            for (Path file : (Iterable<Path>) files::iterator) {
                Files.delete(file);
            }
        }
        Files.delete(folder);
    }

    /** Each constant stands in README.md with the value and the words of the document. */
    private static void constants(String readme, String document) {
        Matcher line = Pattern.compile("(?m)^- `(\\w+) = (-\\d)`: (.*)$").matcher(document);
        int found = 0;
        while (line.find()) {
            String row = "| `" + line.group(1) + "` | " + line.group(2) + " | " + line.group(3) + " |\n";
            CHECK.due(row, readme.contains(row), true);
            found++;
        }
        CHECK.due("the constants of the document", found, 5);
    }

    /** Each method stands in one row, with the constants that its promise names. */
    private static void errorsOfMethods(String readme, String document) {
        for (Method method : ExamBoard.class.getDeclaredMethods()) {
            if (!Modifier.isPublic(method.getModifiers())) {
                continue;
            }
            String name = method.getName();
            Matcher row = Pattern.compile("(?m)^\\|[^|\n]*`" + name + "`[^|\n]*\\|[^|\n]*\\|([^|\n]*)\\|$")
                .matcher(readme);
            CHECK.due("a row of " + name, row.find(), true);
            Matcher promise = Pattern.compile("(?s)## Promise \\d+: " + name + "\n(.*?)\n## ").matcher(document);
            CHECK.due("a promise of " + name, promise.find(), true);
            CHECK.due("the errors of " + name, names(row.group(1)), names(promise.group(1)));
            CHECK.due("one row of " + name, row.find(), false);
        }
    }

    private static Set<String> names(String words) {
        Set<String> found = new TreeSet<>();
        Matcher name = CONSTANT.matcher(words);
        while (name.find()) {
            found.add(name.group());
        }
        return found;
    }
}
