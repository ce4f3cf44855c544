import java.io.IOException;
import java.nio.file.Files;
import java.nio.file.Path;
import java.util.ArrayList;
import java.util.List;
import java.util.Set;
import java.util.TreeSet;
import java.util.stream.Stream;

/**
 * The edges that the document names, in the files of src/test/edges. Lines that begin with "#" are words of
 * the document; they begin a new object, whose calls follow as {@link Trial} has them. Lines that begin with
 * "--" are remarks. What is quoted must stand in the document word by word, so that a test cannot outlive
 * the sentence that it is for.
 */
public final class EdgesTest {
    private static final Path EDGES = Path.of("src/test/edges");
    private static final Path DOCUMENT = Path.of("../shared/DOC.md");
    private static final Check CHECK = new Check();

    private final String document;
    private final Set<String> quotes = new TreeSet<>();
    private String quote = "";
    private List<String> calls = new ArrayList<>();

    private EdgesTest(String document) {
        this.document = document;
    }

    public static void main(String[] args) throws IOException {
        EdgesTest test = new EdgesTest(plain(Files.readString(DOCUMENT)));
        List<Path> files = new ArrayList<>();
        try (Stream<Path> found = Files.list(EDGES)) {
            found.filter(file -> file.toString().endsWith(".txt")).sorted().forEach(files::add);
        }
        CHECK.about("the files of edges");
        CHECK.due("there are some", files.isEmpty(), false);
        for (Path file : files) {
            test.read(file);
        }
        test.eachPromiseIsQuoted();
        CHECK.end();
    }

    private static String plain(String text) {
        return text.replace("`", "").replaceAll("\\s+", " ");
    }

    private void read(Path file) throws IOException {
        boolean inQuote = false;
        for (String line : Files.readAllLines(file)) {
            String words = line.strip();
            if (words.startsWith("#")) {
                if (!inQuote) {
                    end(file);
                }
                addQuote(file, words.substring(1).strip());
                inQuote = true;
            } else if (!words.isEmpty() && !words.startsWith("--")) {
                calls.add(words);
                inQuote = false;
            }
        }
        end(file);
    }

    private void addQuote(Path file, String words) {
        CHECK.about(file.getFileName() + ", words of the document");
        CHECK.due("\"" + words + "\" stands there", document.contains(plain(words)), true);
        quotes.add(words);
        quote = quote.isEmpty() ? words : quote + " / " + words;
    }

    private void end(Path file) {
        CHECK.about(file.getFileName() + ", \"" + quote + "\"");
        if (!quote.isEmpty() || !calls.isEmpty()) {
            CHECK.due("a quote with calls", !quote.isEmpty() && !calls.isEmpty(), true);
            new Trial(CHECK).lines(calls);
        }
        quote = "";
        calls = new ArrayList<>();
    }

    /** A promise has a section of its own here, which its heading begins. */
    private void eachPromiseIsQuoted() {
        CHECK.about("sections of the promises");
        for (int number = 1; number <= 33; number++) {
            String start = "Promise " + number + ": ";
            CHECK.due(start, quotes.stream().anyMatch(words -> words.startsWith(start)), true);
        }
    }
}
