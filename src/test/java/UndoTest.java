import java.util.ArrayList;
import java.util.List;

/** Promises 31 to 33: undo, save, restore; and that calls that return an error code change nothing. */
public final class UndoTest {
    private static final Check CHECK = new Check();

    public static void main(String[] args) {
        undoOfEach();
        undoAtMostEight();
        undoOfNothing();
        undoLeaves();
        saveAndRestore();
        restoreAll();
        restoreWhatWasReplaced();
        snapshotAndUndo();
        errorsChangeNothing();
        CHECK.end();
    }

    /** Two modules, two papers, three students; the student 1 has a resit in the paper 0. */
    private static ExamBoard withAttempts() {
        ExamBoard x = Check.withModules(2, 3);
        Check.addStudent(x, 0, 60, 45);
        Check.addStudent(x, 1, 20);
        Check.addStudent(x, 2);
        x.resit(1, 0, 90);
        return x;
    }

    /** Every answer that tells of the state, but for the changes that can be undone. */
    private static List<Integer> state(ExamBoard x) {
        List<Integer> all = new ArrayList<>();
        for (int what = 0; what < 16; what++) {
            if (what != 9 && what != 10) {
                all.add(x.account(what));
            }
        }
        for (int paper = 0; paper < 8; paper++) {
            for (int what = 0; what < 8; what++) {
                all.add(x.paper(paper, what));
            }
            for (int cohort = 0; cohort < 3; cohort++) {
                for (int what = 0; what < 7; what++) {
                    all.add(x.scaling(paper, cohort, what));
                }
            }
        }
        for (int student = 0; student < 20; student++) {
            for (int what = 0; what < 9; what++) {
                all.add(x.student(student, what));
            }
            for (int module = 0; module < 4; module++) {
                for (int what = 0; what < 5; what++) {
                    all.add(x.module(student, module, what));
                }
            }
            for (int paper = 0; paper < 8; paper++) {
                for (int what = 0; what < 8; what++) {
                    all.add(x.attempt(student, paper, what));
                }
            }
        }
        for (int i = 0; i < x.account(3); i++) {
            all.add(x.entered(i, 0) * 8 + x.entered(i, 1));
        }
        return all;
    }

    private static int change(ExamBoard x, int number) {
        switch (number) {
            case 0:
                return x.set(0, 45);
            case 1:
                return x.addModule(3);
            case 2:
                return x.addPaper(1, 2, 50);
            case 3:
                return x.addStudent(2);
            case 4:
                return x.mark(2, 1, 70);
            case 5:
                return x.absent(2, 1, 1);
            case 6:
                return x.remove(0, 0);
            case 7:
                return x.remove(1, 0);
            case 8:
                return x.scale(0, 0, 3, 33);
            case 9:
                return Check.read(x, "m2.1=30;r2.1=60;x0.0;x1.0;a0.0");
            default:
                x.set(0, 46);
                return x.resit(0, 1, 46);
        }
    }

    private static void undoOfEach() {
        CHECK.about("promise 31");
        for (int number = 0; number <= 10; number++) {
            ExamBoard x = withAttempts();
            List<Integer> before = state(x);
            CHECK.due("change " + number + " is made", change(x, number) >= 0, true);
            CHECK.due("change " + number + " is seen", state(x).equals(before), false);
            for (int undone = number == 10 ? 2 : 1; undone > 0; undone--) {
                x.undo();
            }
            CHECK.due("change " + number + " is undone", state(x), before);
        }
        ExamBoard x = withAttempts();
        List<Integer> before = state(x);
        x.set(0, 40);
        x.scale(0, 0, 0, 0);
        CHECK.due("nothing changes", state(x), before);
        CHECK.due("undo() of scale", x.undo(), 7);
        CHECK.due("undo() of set", x.undo(), 6);
        CHECK.due("the same state", state(x), before);
        CHECK.due("undo() of resit", x.undo(), 5);
        CHECK.due("the resit is gone", x.attempt(1, 0, 3), ExamBoard.NOTHING);
    }

    private static void undoAtMostEight() {
        CHECK.about("promise 31, at most 8");
        ExamBoard x = new ExamBoard();
        for (int v = 30; v < 50; v++) {
            x.set(0, v);
            CHECK.due("account(10)", x.account(10), Math.min(8, v - 29));
        }
        for (int left = 7; left >= 0; left--) {
            CHECK.due("undo()", x.undo(), left);
            CHECK.due("account(10)", x.account(10), left);
            CHECK.due("account(11)", x.account(11), 41 + left);
        }
        CHECK.due("undo()", x.undo(), ExamBoard.NOTHING);
        CHECK.due("account(11)", x.account(11), 41);
        for (int round = 0; round < 30; round++) {
            x.set(3, 1);
            x.set(3, 5);
            x.undo();
            CHECK.due("account(14)", x.account(14), 1);
            CHECK.due("account(10)", x.account(10), Math.min(7, round + 1));
        }
    }

    private static void undoOfNothing() {
        CHECK.about("promise 31, nothing to undo");
        ExamBoard x = new ExamBoard();
        CHECK.due("undo()", x.undo(), ExamBoard.NOTHING);
        x.addStudent(0);
        CHECK.due("undo()", x.undo(), 0);
        CHECK.due("undo()", x.undo(), ExamBoard.NOTHING);
        CHECK.due("students", x.account(2), 0);
        CHECK.due("addStudent(1)", x.addStudent(1), 0);
    }

    private static void undoLeaves() {
        CHECK.about("promise 31, what it leaves");
        ExamBoard x = withAttempts();
        Check.type(x, "m0.0");
        x.write(0);
        x.mark(9, 0, 0);
        x.save();
        for (int i = 0; i < 8; i++) {
            x.undo();
        }
        CHECK.due("the text", x.account(9), 4);
        CHECK.due("the written text", Check.written(x), "0:60;1:45");
        CHECK.due("the reason", x.refusal(0), 1);
        CHECK.due("students", x.account(2), 0);
        CHECK.due("the snapshot", x.restore(), 3);
        CHECK.due("students again", x.account(2), 3);
    }

    private static void saveAndRestore() {
        CHECK.about("promises 32 and 33");
        ExamBoard x = new ExamBoard();
        CHECK.due("restore()", x.restore(), ExamBoard.NOTHING);
        CHECK.due("save() of an empty board", x.save(), 0);
        x.addStudent(0);
        CHECK.due("restore()", x.restore(), 0);
        CHECK.due("students", x.account(2), 0);
        x.addStudent(0);
        x.addStudent(1);
        CHECK.due("save()", x.save(), 2);
        CHECK.due("save is no change", x.account(10), 2);
        x.addStudent(2);
        CHECK.due("restore()", x.restore(), 2);
        CHECK.due("nothing to undo", x.account(10), 0);
        CHECK.due("undo()", x.undo(), ExamBoard.NOTHING);
        x.set(0, 60);
        CHECK.due("the snapshot stays", x.restore(), 2);
        CHECK.due("account(11)", x.account(11), 40);
        x.addStudent(2);
        x.save();
        x.undo();
        CHECK.due("in place of the earlier one", x.restore(), 3);
        ExamBoard y = new ExamBoard();
        y.addStudent(0);
        CHECK.due("restore() without a snapshot", y.restore(), ExamBoard.NOTHING);
        CHECK.due("undo is left", y.account(10), 1);
    }

    private static void restoreAll() {
        CHECK.about("promise 33, all that changes can change");
        ExamBoard x = withAttempts();
        x.set(3, 4);
        x.scale(1, 0, 2, 120);
        x.save();
        List<Integer> saved = state(x);
        for (int round = 0; round < 2; round++) {
            for (int number = 0; number <= 10; number++) {
                change(x, number);
            }
            Check.type(x, "m0");
            x.write(0);
            String written = Check.written(x);
            x.mark(99, 0, 0);
            CHECK.due("it is another state", state(x).equals(saved), false);
            CHECK.due("restore()", x.restore(), 3);
            CHECK.due("the saved state", state(x), saved);
            CHECK.due("the text", x.account(9), 2);
            CHECK.due("the written text", Check.written(x), written);
            CHECK.due("the reason", x.refusal(2), 99);
            x.read();
        }
    }

    /** What is undone behind the snapshot and added otherwise must not stay in the restored state. */
    private static void restoreWhatWasReplaced() {
        CHECK.about("promise 33, what was replaced");
        ExamBoard x = new ExamBoard();
        x.addModule(2);
        x.addModule(3);
        x.addPaper(1, 4, 60);
        x.addStudent(2);
        x.save();
        List<Integer> saved = state(x);
        for (int i = 0; i < 4; i++) {
            x.undo();
        }
        x.addModule(7);
        x.addPaper(0, 9, 110);
        x.addStudent(0);
        x.addModule(8);
        x.restore();
        CHECK.due("the saved state", state(x), saved);
        CHECK.due("module of the paper", x.paper(0, 0), 1);
        CHECK.due("weight of the paper", x.paper(0, 1), 4);
        CHECK.due("full mark of the paper", x.paper(0, 2), 60);
        CHECK.due("cohort of the student", x.student(0, 0), 2);
        CHECK.due("credits that count", x.account(7), 3);
        x.addPaper(0, 1, 100);
        CHECK.due("credits of both", x.account(7), 5);
    }

    private static void snapshotAndUndo() {
        CHECK.about("promises 31 to 33 together");
        ExamBoard x = withAttempts();
        x.save();
        List<Integer> saved = state(x);
        x.set(0, 50);
        x.undo();
        x.undo();
        CHECK.due("undo behind the snapshot", x.attempt(1, 0, 3), ExamBoard.NOTHING);
        x.restore();
        CHECK.due("the snapshot has it still", state(x), saved);
        x.mark(2, 0, 50);
        CHECK.due("one change since", x.account(10), 1);
        CHECK.due("undo()", x.undo(), 0);
        CHECK.due("the saved state", state(x), saved);
    }

    private static void errorsChangeNothing() {
        CHECK.about("errors change nothing");
        ExamBoard x = withAttempts();
        x.addModule(1);
        x.addModule(1);
        List<Integer> before = state(x);
        int[] answers = {x.set(0, 61), x.set(5, 0), x.addModule(0), x.addModule(1), x.addPaper(4, 1, 100),
            x.addPaper(0, 0, 100), x.addStudent(3), x.mark(0, 0, -1), x.mark(0, 0, 1), x.absent(2, 0, 2),
            x.absent(0, 0, 0), x.resit(0, 0, 50), x.resit(2, 0, 50), x.remove(2, 0), x.remove(3, 0),
            x.scale(2, 0, 1, 1), x.scale(0, 0, 0, 1), x.append(31), x.read(), x.classIf(0, 0, 101),
            x.changedIf(0, 61), x.write(3), x.restore(), Check.read(x, "x0.0;x0.0"), Check.read(x, "x0.0;x0")};
        for (int i = 0; i < answers.length; i++) {
            CHECK.due("answer " + i + " is an error", answers[i] < 0, true);
        }
        CHECK.due("the state", state(x), before);
        CHECK.due("account(10)", x.account(10), 8);
        CHECK.due("account(9)", x.account(9), 0);
        x.undo();
        x.undo();
        CHECK.due("the latest change before these", x.undo(), 5);
        CHECK.due("it was the resit", x.attempt(1, 0, 3), ExamBoard.NOTHING);
    }
}
