import java.lang.reflect.InvocationTargetException;
import java.lang.reflect.Method;
import java.lang.reflect.Modifier;
import java.util.ArrayList;
import java.util.HashMap;
import java.util.List;
import java.util.Map;
import java.util.regex.Matcher;
import java.util.regex.Pattern;

/**
 * A new object, and calls of it told as lines of text. A line is one of these:
 *
 * <pre>
 * addPaper(0, 1, 100) 0       a call and the answer that is due: a number or the name of a constant
 * addPaper(0, 1, 100)         a call that must answer 0 or more
 * 20 addStudent(0)            so many of these calls
 * type "m0.0=1"               append for each character, each of which must answer the length
 * read "m0.0=1" 1             the same, and read
 * written "0:40"              all characters of the written text, and NONE behind and before it
 * fill                        makes the new board full: see the method of this name
 * </pre>
 *
 * Arguments may be MIN and MAX, the least and the greatest int. An object is used for at most 512 calls.
 */
final class Trial {
    static final int CALLS = 512;
    private static final Pattern LINE = Pattern.compile("(?:(\\d+) )?(\\w+)\\(([^)]*)\\)(?: (\\S+))?");
    private static final Pattern TEXT = Pattern.compile("(type|read|written) \"([^\"]*)\"(?: (\\S+))?");
    private static final Map<String, Method> METHODS = methods();

    private final ExamBoard x = new ExamBoard();
    private final Check check;
    private int calls = 0;
    private int typed = 0;

    Trial(Check check) {
        this.check = check;
    }

    private static Map<String, Method> methods() {
        Map<String, Method> found = new HashMap<>();
        for (Method method : ExamBoard.class.getDeclaredMethods()) {
            if (Modifier.isPublic(method.getModifiers())) {
                found.put(method.getName(), method);
            }
        }
        return found;
    }

    void lines(List<String> lines) {
        for (String line : lines) {
            line(line);
        }
    }

    void line(String line) {
        Matcher text = TEXT.matcher(line);
        Matcher one = LINE.matcher(line);
        if (line.equals("fill")) {
            fill();
        } else if (text.matches()) {
            ofText(text.group(1), text.group(2), text.group(3));
        } else if (one.matches()) {
            int times = one.group(1) == null ? 1 : Integer.parseInt(one.group(1));
            for (int i = 0; i < times; i++) {
                due(one.group(2) + "(" + one.group(3) + ")", one.group(4));
            }
        } else {
            check.due("the line \"" + line + "\"", "is no call", "is a call");
        }
    }

    /**
     * Four modules of 9 credits, with two papers each, of weight 1 and full mark 100; twenty students, one
     * after the other in the cohorts 0, 1, 2, 0, ..; and each student s has the mark 34 + 2 * s in each
     * paper, entered student by student: the first three are failed, and none is compensated or at the border.
     */
    private void fill() {
        for (int module = 0; module < 4; module++) {
            due("addModule(9)", String.valueOf(module));
        }
        for (int paper = 0; paper < 8; paper++) {
            due("addPaper(" + paper / 2 + ", 1, 100)", String.valueOf(paper));
        }
        for (int student = 0; student < 20; student++) {
            due("addStudent(" + student % 3 + ")", String.valueOf(student));
        }
        for (int pair = 0; pair < 160; pair++) {
            int mark = 34 + 2 * (pair / 8);
            due("mark(" + pair / 8 + ", " + pair % 8 + ", " + mark + ")", String.valueOf(mark));
        }
    }

    private void due(String call, String want) {
        int got = ask(call);
        String what = "call " + calls + ": " + call;
        if (want == null) {
            check.due(what + ", no error", Math.min(got, 0), 0);
        } else {
            check.due(what, got, number(want));
        }
    }

    private void ofText(String what, String text, String want) {
        if (what.equals("written")) {
            written(text);
            return;
        }
        for (char sign : text.toCharArray()) {
            typed++;
            due("append(" + (int) sign + ")", String.valueOf(typed));
        }
        if (what.equals("read")) {
            due("read()", want);
        }
    }

    private void written(String text) {
        due("written(-1)", "NONE");
        for (int i = 0; i < text.length(); i++) {
            due("written(" + i + ")", String.valueOf((int) text.charAt(i)));
        }
        due("written(" + text.length() + ")", "NONE");
    }

    /** Calls a method told as text, and answers what it answers. */
    int ask(String call) {
        int open = call.indexOf('(');
        String inside = call.substring(open + 1, call.length() - 1);
        List<Object> numbers = new ArrayList<>();
        for (String argument : inside.isEmpty() ? new String[0] : inside.split(", ?")) {
            numbers.add(number(argument));
        }
        calls++;
        if (calls == CALLS + 1) {
            check.due("calls of one object, at most " + CALLS, calls, CALLS);
        }
        String name = call.substring(0, open);
        if (name.equals("read")) {
            typed = 0;
        }
        return invoke(METHODS.get(name), numbers.toArray());
    }

    private int invoke(Method method, Object[] numbers) {
        try {
            return (Integer) method.invoke(x, numbers);
        } catch (IllegalAccessException | InvocationTargetException e) {
            throw new IllegalStateException(method.getName() + " threw " + e.getCause(), e);
        }
    }

    static int number(String text) {
        switch (text) {
            case "MIN":
                return Integer.MIN_VALUE;
            case "MAX":
                return Integer.MAX_VALUE;
            case "NONE":
                return -1;
            case "BAD":
                return -2;
            case "FULL":
                return -3;
            case "REFUSED":
                return -4;
            case "NOTHING":
                return -5;
            default:
                return Integer.parseInt(text);
        }
    }
}
