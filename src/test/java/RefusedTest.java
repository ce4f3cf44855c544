import java.util.ArrayList;
import java.util.List;
import java.util.Map;
import java.util.TreeMap;
import java.util.function.Supplier;

/**
 * "A call that returns an error code leaves the state unchanged, except that read empties the text, and that
 * reasons are kept", and no question changes anything: on a new board, on one with some of everything, and on
 * one where all is full.
 */
public final class RefusedTest {
    private static final Check CHECK = new Check();
    private static final List<String> NOTHING_THERE = List.of();
    private static final List<String> SOME = List.of("addModule(3)", "addModule(4)", "addModule(5)",
        "addPaper(0, 1, 100)", "addPaper(0, 2, 50)", "addPaper(1, 9, 200)", "addStudent(0)", "addStudent(1)",
        "addStudent(1)", "addStudent(2)", "scale(0, 1, 3, 55)", "scale(1, 0, 2, 80)", "set(1, 20)",
        "mark(0, 0, 62)", "mark(0, 1, 17)", "mark(0, 2, 130)", "save()", "mark(1, 0, 30)", "mark(2, 0, 50)",
        "absent(1, 1, 1)", "absent(2, 1, 0)", "resit(1, 1, 44)", "resit(2, 1, 44)", "mark(1, 2, 100)",
        "set(4, 60)", "undo()", "undo()", "undo()", "write(0)", "mark(3, 0, 101) REFUSED", "type \"m3.0\"");
    private static final List<String> ALL_FULL = List.of("fill", "resit(0, 0, 90)", "resit(1, 7, 90)",
        "scale(7, 2, 1, -20)", "save()", "set(3, 5)", "write(19)", "absent(20, 0, 0) REFUSED",
        "type \"x0.0;m0.0=50;x0.1;m0.1=50;x0.2;m0.2=50;x0.3;m0.3=50;x0.4;m0.4=50;x0.5;m0.5=50;;;\"");

    private static final String[] CALLS = {
        "set(-1, 40)", "set(5, 40)", "set(MIN, 40)", "set(MAX, 40)", "set(0, 29)", "set(0, 61)", "set(1, -1)",
        "set(1, 61)", "set(2, -1)", "set(2, 9)", "set(3, -1)", "set(3, 6)", "set(4, -1)", "set(4, 101)",
        "set(0, MIN)", "set(4, MAX)",
        "addModule(0)", "addModule(10)", "addModule(MIN)", "addModule(MAX)", "addModule(1)",
        "addPaper(-1, 1, 100)", "addPaper(4, 1, 100)", "addPaper(3, 1, 100)", "addPaper(0, 0, 100)",
        "addPaper(0, 10, 100)", "addPaper(0, 1, 9)", "addPaper(0, 1, 201)", "addPaper(0, 1, 100)",
        "addPaper(MIN, MAX, MIN)",
        "addStudent(-1)", "addStudent(3)", "addStudent(MIN)", "addStudent(MAX)", "addStudent(2)",
        "mark(0, 0, -1)", "mark(0, 0, MIN)", "mark(20, 0, 1)", "mark(0, 8, 1)", "mark(0, 0, 101)", "mark(0, 0, 1)",
        "mark(-1, -1, 0)", "mark(MAX, MAX, MAX)", "mark(3, 3, 1)",
        "absent(0, 0, -1)", "absent(0, 0, 2)", "absent(20, 0, 0)", "absent(0, 8, 1)", "absent(0, 0, 0)",
        "absent(1, 1, 1)", "absent(MIN, MIN, MIN)",
        "resit(0, 0, -1)", "resit(20, 0, 1)", "resit(0, 8, 1)", "resit(0, 0, 101)", "resit(3, 2, 1)",
        "resit(1, 1, 45)", "resit(19, 7, 1)", "resit(1, 7, 1)", "resit(0, 2, 1)", "resit(MAX, MIN, MAX)",
        "remove(20, 0)", "remove(0, 8)", "remove(3, 1)", "remove(-1, 0)", "remove(MIN, MAX)", "remove(0, MAX)",
        "scale(8, 0, 0, 0)", "scale(-1, 0, 0, 0)", "scale(0, 3, 0, 0)", "scale(0, -1, 0, 0)", "scale(0, 0, -1, 0)",
        "scale(0, 0, 4, 0)", "scale(0, 0, 0, 1)", "scale(0, 0, 1, 31)", "scale(0, 1, 1, -31)", "scale(0, 1, 2, 49)",
        "scale(0, 1, 2, 151)", "scale(0, 1, 3, -1)", "scale(7, 2, 3, 101)", "scale(MIN, MAX, MIN, MAX)",
        "append(31)", "append(127)", "append(MIN)", "append(MAX)", "append(48)", "read()", "undo()", "restore()",
        "paper(0, 7)", "paper(8, 0)", "paper(0, 8)", "attempt(0, 0, 6)", "attempt(20, 0, 0)", "attempt(0, 0, 8)",
        "attempt(3, 2, 0)", "entered(0, 2)", "entered(160, 0)", "entered(0, 3)", "scaling(0, 1, 5)",
        "scaling(0, 1, 6)", "scaling(8, 0, 0)", "scaling(0, 0, 7)", "scaled(0, 1, 50)", "scaled(0, 1, 101)",
        "module(0, 0, 1)", "module(0, 4, 0)", "module(0, 0, 5)", "student(0, 6)", "student(20, 0)", "student(0, 9)",
        "again(0)", "again(20)", "why(0, 1)", "why(20, 0)", "why(0, 2)", "ranked(0)", "ranked(20)", "ofClass(5, 2)",
        "ofClass(6, 0)", "ofClass(0, 3)", "classIf(0, 0, 0)", "classIf(0, 0, 100)", "classIf(0, 0, 101)",
        "classIf(20, 0, 0)", "needed(0, 0)", "needed(0, 8)", "changedIf(0, 60)", "changedIf(1, 0)",
        "changedIf(2, 8)", "changedIf(3, 0)", "changedIf(4, 100)", "changedIf(4, 101)", "changedIf(5, 0)",
        "refusal(0)", "refusal(3)", "write(20)", "write(-1)", "written(0)", "written(-1)", "account(8)",
        "account(16)"};

    /** Texts that are refused or wrong on every board, the last fault or refusal behind good entries. */
    private static final String[] TEXTS = {"", "q", "x0.0;", "m0.0=", "e0.0;e20.0", "x0.0;m0.0=0;m0.0=0", "e0.8",
        "x0.0;x0.1;m0.0=10;m0.1=10;r0.0=50;r0.1=50;r0.1=51", "x0.0;m0.0=20;r0.0=30;x0.0;m0.0=201", "x19.7;x19.7",
        "x1.0;x0.0;m1.0=100;m0.0=100;r0.0=1"};

    /** For each method, how often it was refused: each change must be, on some board. */
    private static final Map<String, Integer> REFUSED = new TreeMap<>();

    public static void main(String[] args) {
        leavesAll("a new board", NOTHING_THERE);
        leavesAll("a board with some of everything", SOME);
        leavesAll("a full board", ALL_FULL);
        CHECK.about("calls that were refused");
        for (String change : changes()) {
            CHECK.due("at least one of " + change, REFUSED.getOrDefault(change, 0) > 0, true);
        }
        CHECK.end();
    }

    private static List<String> changes() {
        return List.of("set", "addModule", "addPaper", "addStudent", "mark", "absent", "resit", "remove", "scale",
            "append", "read", "undo", "restore");
    }

    private static Trial board(List<String> recipe, int undone, boolean restored) {
        Trial trial = new Trial(CHECK);
        trial.lines(recipe);
        for (int i = 0; i < undone; i++) {
            trial.ask("undo()");
        }
        if (restored) {
            trial.ask("restore()");
        }
        return trial;
    }

    /** What a board made so answers now, with the latest change undone, with all, and when restored. */
    private static List<List<Integer>> all(List<String> recipe) {
        List<List<Integer>> all = new ArrayList<>();
        all.add(Whole.of(() -> board(recipe, 0, false)));
        for (int undone : new int[] {1, 4, 8}) {
            all.add(Whole.plain(() -> board(recipe, undone, false)));
        }
        all.add(Whole.plain(() -> board(recipe, 0, true)));
        return all;
    }

    private static List<Integer> reasons(Supplier<Trial> maker) {
        Trial trial = maker.get();
        return List.of(trial.ask("refusal(0)"), trial.ask("refusal(1)"), trial.ask("refusal(2)"));
    }

    private static void leavesAll(String name, List<String> recipe) {
        List<List<Integer>> before = all(recipe);
        List<Integer> reasons = reasons(() -> board(recipe, 0, false));
        int length = board(recipe, 0, false).ask("account(9)");
        for (String call : CALLS) {
            CHECK.about(name + ", " + call);
            int answer = board(recipe, 0, false).ask(call);
            String method = call.substring(0, call.indexOf('('));
            if (changes().contains(method) && answer >= 0) {
                continue;
            }
            REFUSED.merge(method, 1, Integer::sum);
            List<String> longer = new ArrayList<>(recipe);
            longer.add(call + " " + answer);
            CHECK.due("the state", all(longer), before);
            dueText(longer, method.equals("read") ? 0 : length);
            boolean entry = answer == ExamBoard.REFUSED && changes().contains(method);
            CHECK.due("the reasons stay", entry || reasons(() -> board(longer, 0, false)).equals(reasons), true);
        }
        for (String text : TEXTS) {
            CHECK.about(name + ", text \"" + text + "\"");
            leavesAll(recipe, before, text);
        }
    }

    private static void dueText(List<String> recipe, int length) {
        CHECK.due("the length of the text", board(recipe, 0, false).ask("account(9)"), length);
    }

    /** What was typed on the board before is read first, and changes nothing either. */
    private static void leavesAll(List<String> recipe, List<List<Integer>> before, String text) {
        List<String> longer = new ArrayList<>(recipe);
        int first = board(recipe, 0, false).ask("read()");
        longer.add("read \"\" " + first);
        CHECK.due("the text before it is wrong", first <= -1000, true);
        longer.add("type \"" + text + "\"");
        int answer = board(longer, 0, false).ask("read()");
        CHECK.due("an error", answer == ExamBoard.REFUSED || answer <= -1000, true);
        longer.add("read \"\" " + answer);
        CHECK.due("the state", all(longer), before);
        dueText(longer, 0);
    }
}
