import java.io.IOException;
import java.lang.reflect.Constructor;
import java.lang.reflect.Field;
import java.lang.reflect.Member;
import java.lang.reflect.Method;
import java.lang.reflect.Modifier;
import java.nio.file.Files;
import java.nio.file.Path;
import java.util.ArrayList;
import java.util.List;
import java.util.Set;
import java.util.TreeSet;
import java.util.regex.Matcher;
import java.util.regex.Pattern;

/** The face of the document, and the rules of LANGUAGE.md that can be seen without understanding the program. */
public final class LanguageTest {
    private static final Path SOURCE = Path.of("src/main/java/ExamBoard.java");
    private static final Path DOCUMENT = Path.of("../shared/DOC.md");
    private static final Check CHECK = new Check();

    public static void main(String[] args) throws IOException {
        String source = Files.readString(SOURCE);
        face();
        members();
        words(withoutComments(source));
        library(withoutComments(source));
        lengths(source);
        CHECK.end();
    }

    /** The members of the face as the document has them, against those of the class. */
    private static void face() throws IOException {
        CHECK.about("rule 1, the face");
        Set<String> due = new TreeSet<>();
        Matcher line = Pattern.compile("(?m)^    (public (?!final).*);$").matcher(Files.readString(DOCUMENT));
        while (line.find()) {
            due.add(line.group(1));
        }
        Set<String> got = new TreeSet<>();
        for (Field field : ExamBoard.class.getDeclaredFields()) {
            if (Modifier.isPublic(field.getModifiers())) {
                got.add("public static final int " + field.getName() + " = " + valueOf(field.getName()));
            }
        }
        for (Constructor<?> constructor : ExamBoard.class.getDeclaredConstructors()) {
            got.add("public ExamBoard(" + "int".repeat(constructor.getParameterCount()) + ")");
        }
        for (Method method : ExamBoard.class.getDeclaredMethods()) {
            if (Modifier.isPublic(method.getModifiers())) {
                got.add("public " + method.getReturnType() + " " + method.getName() + "/"
                    + method.getParameterCount());
            }
        }
        Set<String> wanted = new TreeSet<>();
        for (String one : due) {
            boolean method = one.startsWith("public int ");
            int numbers = one.split("int ", -1).length - 2;
            wanted.add(method ? one.substring(0, one.indexOf('(')) + "/" + numbers : one);
        }
        CHECK.due("members", got, wanted);
        CHECK.due("count of members", got.size(), 5 + 1 + 32);
        CHECK.due("final", Modifier.isFinal(ExamBoard.class.getModifiers()), true);
    }

    private static int valueOf(String constant) {
        switch (constant) {
            case "NONE":
                return ExamBoard.NONE;
            case "BAD":
                return ExamBoard.BAD;
            case "FULL":
                return ExamBoard.FULL;
            case "REFUSED":
                return ExamBoard.REFUSED;
            case "NOTHING":
                return ExamBoard.NOTHING;
            default:
                return 0;
        }
    }

    private static void members() {
        CHECK.about("rules 1, 2, 5 and 11, members");
        List<Member> all = new ArrayList<>(List.of(ExamBoard.class.getDeclaredFields()));
        all.addAll(List.of(ExamBoard.class.getDeclaredMethods()));
        Set<String> publicNames = new TreeSet<>();
        for (Member member : all) {
            boolean open = Modifier.isPublic(member.getModifiers());
            CHECK.due(member + " is public or private", open || Modifier.isPrivate(member.getModifiers()), true);
            if (open && member instanceof Method) {
                publicNames.add(member.getName());
            }
        }
        List<Class<?>> classes = new ArrayList<>(List.of(ExamBoard.class.getDeclaredClasses()));
        CHECK.due("at most twelve classes", classes.size() < 12, true);
        classes.add(ExamBoard.class);
        for (Class<?> type : classes) {
            boolean inside = type != ExamBoard.class;
            CHECK.due(type + " is static", Modifier.isStatic(type.getModifiers()), inside);
            int fields = 0;
            for (Field field : type.getDeclaredFields()) {
                boolean fixed = Modifier.isStatic(field.getModifiers());
                fields += fixed ? 0 : 1;
                CHECK.due(field + " is no static state", !fixed || Modifier.isFinal(field.getModifiers()), true);
            }
            CHECK.due("at most twenty fields in " + type, fields <= 20, true);
            for (Method method : type.getDeclaredMethods()) {
                boolean other = inside || Modifier.isPrivate(method.getModifiers());
                CHECK.due(method + " has a name of its own", other && publicNames.contains(method.getName()), false);
                CHECK.due(method + " takes at most seven", method.getParameterCount() <= 7, true);
            }
        }
    }

    private static String withoutComments(String source) {
        return source.replaceAll("(?s)/\\*.*?\\*/", " ").replaceAll("//.*", " ");
    }

    private static void words(String code) {
        CHECK.about("rules 2, 4, 6 and 10, words");
        String[] words = {"throw", "throws", "try", "catch", "finally", "synchronized", "assert", "import", "package",
            "var", "volatile", "native", "transient", "equals", "hashCode", "Exception", "System.exit", "Random",
            "currentTimeMillis", "nanoTime", "Exact", "instanceof", "protected"};
        for (String word : words) {
            CHECK.due(word, Pattern.compile("\\b" + Pattern.quote(word) + "\\b").matcher(code).find(), false);
        }
        for (String sign : new String[] {"->", "::", "@", "\" +", "+ \"", "static {", "<<", "float", "double"}) {
            CHECK.due(sign, code.contains(sign), false);
        }
        CHECK.due("signs 1 to 127", code.chars().allMatch(sign -> sign > 0 && sign < 128), true);
    }

    /** Every name of a library class that the program uses. */
    private static void library(String code) {
        CHECK.about("rules 3 and 4, the library");
        Set<String> allowed = Set.of("Math.min", "Math.max", "Math.floorDiv", "System.arraycopy");
        Matcher call = Pattern.compile("\\b(?:Math|System|Arrays|Integer|Long|String|List)\\.\\w+").matcher(code);
        while (call.find()) {
            CHECK.due(call.group(), allowed.contains(call.group()), true);
        }
        Set<String> types = new TreeSet<>(Set.of("Board", "History", "Standing", "Ranks", "EntryText",
            "StringBuilder", "int", "char", "boolean"));
        Matcher made = Pattern.compile("\\bnew (\\w+)").matcher(code);
        while (made.find()) {
            CHECK.due("new " + made.group(1), types.contains(made.group(1)), true);
        }
    }

    private static void lengths(String source) {
        CHECK.about("rule 11, lengths");
        String[] lines = source.split("\n");
        for (int start = 0; start < lines.length; start++) {
            Matcher head = Pattern.compile("^( +)\\S.*\\) \\{$").matcher(lines[start]);
            if (!head.matches()) {
                continue;
            }
            int end = start;
            while (!lines[end].equals(head.group(1) + "}") && !lines[end].startsWith(head.group(1) + "} ")) {
                end++;
            }
            CHECK.due("lines from " + (start + 1) + " are at most sixty", end - start < 60, true);
        }
        for (String line : lines) {
            CHECK.due("at most 120 signs: " + line, line.length() <= 120, true);
        }
    }
}
