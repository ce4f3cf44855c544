/** Promises 7 to 12: mark, absent, resit, remove, attempt, entered. */
public final class AttemptsTest {
    private static final Check CHECK = new Check();

    public static void main(String[] args) {
        markPercents();
        markErrors();
        absent();
        resitWorth();
        resitErrors();
        resitReasonSeven();
        remove();
        attempt();
        attemptVerdicts();
        entered();
        enteredAll();
        CHECK.end();
    }

    /** One module with a paper of this full mark and a student of the cohort 0. */
    private static ExamBoard withPaper(int full) {
        ExamBoard x = new ExamBoard();
        x.addModule(1);
        x.addPaper(0, 1, full);
        x.addStudent(0);
        return x;
    }

    private static void dueRefusal(ExamBoard x, int reason, int about) {
        CHECK.due("refusal(0)", x.refusal(0), reason);
        CHECK.due("refusal(1)", x.refusal(1), ExamBoard.NOTHING);
        CHECK.due("refusal(2)", x.refusal(2), about);
    }

    private static void markPercents() {
        CHECK.about("promise 7");
        int[][] rows = {{200, 0, 0}, {200, 200, 100}, {200, 1, 1}, {200, 79, 40}, {60, 20, 33}, {60, 40, 67},
            {10, 3, 30}, {13, 1, 8}, {150, 31, 21}, {80, 1, 1}, {80, 2, 3}, {80, 6, 8}, {199, 1, 1}};
        for (int[] row : rows) {
            ExamBoard x = withPaper(row[0]);
            CHECK.due(row[1] + " of " + row[0], x.mark(0, 0, row[1]), row[2]);
            CHECK.due("attempt(0, 0, 0)", x.attempt(0, 0, 0), row[1]);
        }
        ExamBoard x = withPaper(100);
        x.scale(0, 0, 1, 30);
        CHECK.due("the percent, not the scaled mark", x.mark(0, 0, 20), 20);
    }

    private static void markErrors() {
        CHECK.about("promise 7, errors");
        ExamBoard x = withPaper(60);
        CHECK.due("mark(0, 0, -1)", x.mark(0, 0, -1), ExamBoard.BAD);
        CHECK.due("mark(9, 9, -1)", x.mark(9, 9, -1), ExamBoard.BAD);
        CHECK.due("BAD is no refusal", x.refusal(0), ExamBoard.NOTHING);
        CHECK.due("mark(1, 1, 999)", x.mark(1, 1, 999), ExamBoard.REFUSED);
        dueRefusal(x, 1, 1);
        CHECK.due("mark(-7, 0, 1)", x.mark(-7, 0, 1), ExamBoard.REFUSED);
        dueRefusal(x, 1, -7);
        CHECK.due("mark(0, 1, 999)", x.mark(0, 1, 999), ExamBoard.REFUSED);
        dueRefusal(x, 2, 1);
        CHECK.due("mark(0, -1, 1)", x.mark(0, -1, 1), ExamBoard.REFUSED);
        dueRefusal(x, 2, -1);
        CHECK.due("mark(0, 0, 61)", x.mark(0, 0, 61), ExamBoard.REFUSED);
        dueRefusal(x, 3, 60);
        CHECK.due("mark(0, 0, MAX)", x.mark(0, 0, Integer.MAX_VALUE), ExamBoard.REFUSED);
        CHECK.due("none entered", x.account(3), 0);
        CHECK.due("mark(0, 0, 60)", x.mark(0, 0, 60), 100);
        dueRefusal(x, 3, 60);
        CHECK.due("mark(0, 0, 61) again", x.mark(0, 0, 61), ExamBoard.REFUSED);
        dueRefusal(x, 3, 60);
        CHECK.due("mark(0, 0, 1)", x.mark(0, 0, 1), ExamBoard.REFUSED);
        dueRefusal(x, 4, 0);
        CHECK.due("mark(0, 0, -1)", x.mark(0, 0, -1), ExamBoard.BAD);
        dueRefusal(x, 4, 0);
        CHECK.due("still 60", x.attempt(0, 0, 0), 60);
        CHECK.due("changes", x.account(10), 4);
    }

    private static void absent() {
        CHECK.about("promise 8");
        ExamBoard x = Check.withModules(1, 1, 1);
        x.addStudent(0);
        x.addStudent(0);
        x.mark(1, 0, 50);
        CHECK.due("absent(0, 0, 2)", x.absent(0, 0, 2), ExamBoard.BAD);
        CHECK.due("absent(9, 9, -1)", x.absent(9, 9, -1), ExamBoard.BAD);
        CHECK.due("absent(0, 0, 0)", x.absent(0, 0, 0), 1);
        CHECK.due("mark(0, 1, 50)", x.mark(0, 1, 50), 50);
        CHECK.due("absent(0, 2, 1)", x.absent(0, 2, 1), 3);
        CHECK.due("absent(2, 9, 1)", x.absent(2, 9, 1), ExamBoard.REFUSED);
        dueRefusal(x, 1, 2);
        CHECK.due("absent(0, 3, 1)", x.absent(0, 3, 1), ExamBoard.REFUSED);
        dueRefusal(x, 2, 3);
        CHECK.due("absent(0, 2, 0)", x.absent(0, 2, 0), ExamBoard.REFUSED);
        dueRefusal(x, 4, 2);
        CHECK.due("absent(0, 1, 0), where a mark is", x.absent(0, 1, 0), ExamBoard.REFUSED);
        dueRefusal(x, 4, 1);
        CHECK.due("mark(0, 0, 50), where an absence is", x.mark(0, 0, 50), ExamBoard.REFUSED);
        dueRefusal(x, 4, 0);
        CHECK.due("kind without an excuse", x.attempt(0, 0, 7), 1);
        CHECK.due("kind with an excuse", x.attempt(0, 2, 7), 2);
        CHECK.due("kind of a mark", x.attempt(0, 1, 7), 0);
    }

    private static void resitWorth() {
        CHECK.about("promise 9");
        ExamBoard x = Check.withModules(1, 1, 1, 1);
        x.addStudent(0);
        x.mark(0, 0, 20);
        x.absent(0, 1, 0);
        x.absent(0, 2, 1);
        x.mark(0, 3, 39);
        CHECK.due("capped after a mark", x.resit(0, 0, 90), 40);
        CHECK.due("capped after an absence", x.resit(0, 1, 90), 40);
        CHECK.due("not capped after an excuse", x.resit(0, 2, 90), 90);
        x.undo();
        CHECK.due("nothing at all", x.resit(0, 2, 0), 0);
        CHECK.due("a resit all the same", x.attempt(0, 2, 3), 0);
        x.undo();
        CHECK.due("not capped once more", x.resit(0, 2, 90), 90);
        CHECK.due("below the cap", x.resit(0, 3, 38), 38);
        CHECK.due("mark 0", x.attempt(0, 0, 5), 40);
        CHECK.due("mark 1", x.attempt(0, 1, 5), 40);
        CHECK.due("mark 2", x.attempt(0, 2, 5), 90);
        CHECK.due("mark 3, the first attempt counts for more", x.attempt(0, 3, 5), 39);
        x.set(4, 55);
        CHECK.due("what it counts for with another cap", x.attempt(0, 0, 4), 55);
        CHECK.due("mark with another cap", x.attempt(0, 0, 5), 55);
        x.set(4, 0);
        CHECK.due("what it counts for with cap 0", x.attempt(0, 0, 4), 0);
        CHECK.due("mark with cap 0", x.attempt(0, 0, 5), 20);
        CHECK.due("an excuse with cap 0", x.attempt(0, 2, 5), 90);
        ExamBoard y = withPaper(60);
        y.mark(0, 0, 5);
        y.scale(0, 0, 1, 20);
        CHECK.due("a percent, not scaled", y.resit(0, 0, 20), 33);
        CHECK.due("mark", y.attempt(0, 0, 5), 33);
    }

    private static void resitErrors() {
        CHECK.about("promise 9, errors");
        ExamBoard x = withPaper(60);
        CHECK.due("resit(9, 9, -1)", x.resit(9, 9, -1), ExamBoard.BAD);
        CHECK.due("resit(1, 9, 61)", x.resit(1, 9, 61), ExamBoard.REFUSED);
        dueRefusal(x, 1, 1);
        CHECK.due("resit(0, 9, 61)", x.resit(0, 9, 61), ExamBoard.REFUSED);
        dueRefusal(x, 2, 9);
        CHECK.due("resit(0, 0, 61)", x.resit(0, 0, 61), ExamBoard.REFUSED);
        dueRefusal(x, 3, 60);
        CHECK.due("resit(0, 0, 60)", x.resit(0, 0, 60), ExamBoard.REFUSED);
        dueRefusal(x, 5, 0);
        x.mark(0, 0, 0);
        CHECK.due("resit(0, 0, 60) behind a mark", x.resit(0, 0, 60), 40);
        CHECK.due("a second one", x.resit(0, 0, 60), ExamBoard.REFUSED);
        dueRefusal(x, 6, 0);
        x.scale(0, 0, 3, 60);
        CHECK.due("6 is before 7", x.resit(0, 0, 60), ExamBoard.REFUSED);
        dueRefusal(x, 6, 0);
        CHECK.due("3 is before 6", x.resit(0, 0, 61), ExamBoard.REFUSED);
        dueRefusal(x, 3, 60);
    }

    private static void resitReasonSeven() {
        CHECK.about("promise 9, reason 7");
        ExamBoard x = withPaper(100);
        x.mark(0, 0, 45);
        CHECK.due("passed", x.resit(0, 0, 50), ExamBoard.REFUSED);
        dueRefusal(x, 7, 45);
        x.scale(0, 0, 1, -5);
        CHECK.due("just passed when scaled", x.resit(0, 0, 50), ExamBoard.REFUSED);
        dueRefusal(x, 7, 40);
        x.scale(0, 0, 1, -6);
        CHECK.due("no longer passed when scaled", x.resit(0, 0, 50), 40);
        ExamBoard y = withPaper(100);
        y.mark(0, 0, 45);
        y.set(0, 46);
        CHECK.due("below another pass mark", y.resit(0, 0, 50), 40);
    }

    private static void remove() {
        CHECK.about("promise 10");
        ExamBoard x = Check.withModules(1, 1);
        x.addStudent(0);
        CHECK.due("remove(1, 9)", x.remove(1, 9), ExamBoard.REFUSED);
        dueRefusal(x, 1, 1);
        CHECK.due("remove(0, 2)", x.remove(0, 2), ExamBoard.REFUSED);
        dueRefusal(x, 2, 2);
        CHECK.due("remove(0, 1)", x.remove(0, 1), ExamBoard.REFUSED);
        dueRefusal(x, 5, 1);
        x.mark(0, 0, 30);
        x.absent(0, 1, 0);
        x.resit(0, 1, 50);
        CHECK.due("a first attempt", x.remove(0, 0), 1);
        CHECK.due("both", x.remove(0, 1), 2);
        CHECK.due("no first attempts", x.account(3), 0);
        CHECK.due("no resits", x.account(4), 0);
        CHECK.due("no raw marks", x.scaling(0, 0, 2), 0);
        CHECK.due("attempt(0, 1, 3)", x.attempt(0, 1, 3), ExamBoard.NOTHING);
        CHECK.due("entered anew", x.mark(0, 1, 20), 20);
        CHECK.due("without the old resit", x.attempt(0, 1, 3), ExamBoard.NOTHING);
        CHECK.due("a resit of its own", x.resit(0, 1, 35), 35);
    }

    private static void attempt() {
        CHECK.about("promise 11");
        ExamBoard x = new ExamBoard();
        x.addModule(1);
        x.addPaper(0, 1, 60);
        x.addPaper(0, 1, 100);
        x.addPaper(0, 1, 100);
        x.addStudent(1);
        x.mark(0, 0, 20);
        x.scale(0, 1, 1, -10);
        x.resit(0, 0, 50);
        x.absent(0, 1, 1);
        x.scale(1, 1, 1, 30);
        int[] ofMark = {20, 33, 23, 50, 40, 40, 3, 0};
        int[] ofAbsence = {ExamBoard.NOTHING, 0, 0, ExamBoard.NOTHING, ExamBoard.NOTHING, 0, 3, 2};
        x.set(0, 41);
        for (int what = 0; what < 8; what++) {
            CHECK.due("attempt(0, 0, " + what + ")", x.attempt(0, 0, what), ofMark[what]);
            CHECK.due("attempt(0, 1, " + what + ")", x.attempt(0, 1, what), ofAbsence[what]);
            CHECK.due("attempt(0, 2, " + what + ")", x.attempt(0, 2, what), ExamBoard.NOTHING);
        }
        CHECK.due("attempt(0, 0, -1)", x.attempt(0, 0, -1), ExamBoard.BAD);
        CHECK.due("attempt(0, 2, 8)", x.attempt(0, 2, 8), ExamBoard.BAD);
        CHECK.due("attempt(1, 0, 8)", x.attempt(1, 0, 8), ExamBoard.NONE);
        CHECK.due("attempt(0, 3, 8)", x.attempt(0, 3, 8), ExamBoard.NONE);
        CHECK.due("attempt(-1, 0, 0)", x.attempt(-1, 0, 0), ExamBoard.NONE);
        CHECK.due("attempt(0, -1, 0)", x.attempt(0, -1, 0), ExamBoard.NONE);
    }

    private static void attemptVerdicts() {
        CHECK.about("promise 11, compensation");
        ExamBoard x = new ExamBoard();
        x.addModule(1);
        for (int paper = 0; paper < 5; paper++) {
            x.addPaper(0, 1, 100);
        }
        Check.addStudent(x, 0, 29, 39, 30, 30, 90);
        // 218 / 5 = 43.6, so the module has the mark 44
        int[] verdicts = {3, 2, 2, 3, 1};
        for (int paper = 0; paper < 5; paper++) {
            CHECK.due("verdict of " + paper, x.attempt(0, paper, 6), verdicts[paper]);
        }
        x.set(2, 3);
        CHECK.due("a third one", x.attempt(0, 3, 6), 2);
        CHECK.due("still below the low mark", x.attempt(0, 0, 6), 3);
        x.set(1, 29);
        CHECK.due("the first three", x.attempt(0, 0, 6), 2);
        CHECK.due("the fourth", x.attempt(0, 3, 6), 3);
        x.set(2, 0);
        CHECK.due("none is compensated", x.attempt(0, 1, 6), 3);
        x.set(2, 8);
        x.set(0, 44);
        CHECK.due("the module just at the pass mark", x.attempt(0, 1, 6), 2);
        x.set(0, 45);
        CHECK.due("the module below the pass mark", x.attempt(0, 1, 6), 3);
        x.set(0, 40);
        x.addPaper(0, 1, 100);
        CHECK.due("the module incomplete", x.attempt(0, 1, 6), 3);
        CHECK.due("passed all the same", x.attempt(0, 4, 6), 1);
    }

    private static void entered() {
        CHECK.about("promise 12");
        ExamBoard x = Check.withModules(1, 1);
        x.addStudent(0);
        x.addStudent(0);
        x.mark(1, 1, 50);
        x.mark(0, 0, 30);
        x.absent(1, 0, 1);
        x.resit(0, 0, 35);
        dueOrder(x, new int[][] {{1, 1, 50}, {0, 0, 35}, {1, 0, 0}});
        CHECK.due("entered(-1, 0)", x.entered(-1, 0), ExamBoard.NONE);
        CHECK.due("entered(3, 9)", x.entered(3, 9), ExamBoard.NONE);
        CHECK.due("entered(0, 3)", x.entered(0, 3), ExamBoard.BAD);
        CHECK.due("entered(0, -1)", x.entered(0, -1), ExamBoard.BAD);
        x.remove(0, 0);
        dueOrder(x, new int[][] {{1, 1, 50}, {1, 0, 0}});
        x.mark(0, 0, 60);
        dueOrder(x, new int[][] {{1, 1, 50}, {1, 0, 0}, {0, 0, 60}});
        x.undo();
        x.undo();
        dueOrder(x, new int[][] {{1, 1, 50}, {0, 0, 35}, {1, 0, 0}});
    }

    private static void enteredAll() {
        CHECK.about("promise 12, every student in every paper");
        ExamBoard x = new ExamBoard();
        x.addModule(1);
        for (int paper = 0; paper < 8; paper++) {
            x.addPaper(0, 1, 100);
        }
        for (int student = 0; student < 20; student++) {
            x.addStudent(0);
            for (int paper = 0; paper < 8; paper++) {
                x.mark(student, 7 - paper, 40 + student + paper);
            }
        }
        for (int i = 0; i < 160; i++) {
            CHECK.due("entered(" + i + ", 0)", x.entered(i, 0), i / 8);
            CHECK.due("entered(" + i + ", 1)", x.entered(i, 1), 7 - i % 8);
            CHECK.due("entered(" + i + ", 2)", x.entered(i, 2), 40 + i / 8 + i % 8);
        }
        CHECK.due("entered(160, 0)", x.entered(160, 0), ExamBoard.NONE);
        CHECK.due("account(3)", x.account(3), 160);
        x.remove(0, 7);
        CHECK.due("entered(158, 1)", x.entered(158, 1), 0);
        CHECK.due("entered(159, 0)", x.entered(159, 0), ExamBoard.NONE);
    }

    private static void dueOrder(ExamBoard x, int[][] rows) {
        for (int i = 0; i < rows.length; i++) {
            for (int what = 0; what < 3; what++) {
                CHECK.due("entered(" + i + ", " + what + ")", x.entered(i, what), rows[i][what]);
            }
        }
        CHECK.due("entered(" + rows.length + ", 0)", x.entered(rows.length, 0), ExamBoard.NONE);
    }
}
