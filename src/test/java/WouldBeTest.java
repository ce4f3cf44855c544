/** Promises 22 to 24: classIf, needed, changedIf. */
public final class WouldBeTest {
    private static final Check CHECK = new Check();

    public static void main(String[] args) {
        classIf();
        classIfCompensated();
        needed();
        neededWithCompensation();
        neededEdges();
        neededSkips();
        changedIf();
        changedIfOfEach();
        CHECK.end();
    }

    private static void classIf() {
        CHECK.about("promise 22");
        ExamBoard x = Check.withModules(1, 1);
        Check.addStudent(x, 0, 70);
        CHECK.due("no attempt", x.classIf(0, 1, 70), 1);
        CHECK.due("another one is missing", x.classIf(0, 0, 90), 0);
        x.mark(0, 1, 20);
        x.resit(0, 1, 100);
        x.scale(1, 0, 1, 30);
        CHECK.due("class", x.student(0, 2), 2);
        int[][] rows = {{100, 1}, {70, 1}, {66, 1}, {65, 2}, {50, 2}, {46, 2}, {45, 3}, {40, 3}, {39, 5}, {0, 5}};
        for (int[] row : rows) {
            CHECK.due("classIf(0, 1, " + row[0] + ")", x.classIf(0, 1, row[0]), row[1]);
        }
        CHECK.due("class still", x.student(0, 2), 2);
        CHECK.due("mark still", x.attempt(0, 1, 5), 50);
        CHECK.due("no change", x.account(10), 8);
        CHECK.due("classIf(0, 1, 101)", x.classIf(0, 1, 101), ExamBoard.BAD);
        CHECK.due("classIf(0, 1, -1)", x.classIf(0, 1, -1), ExamBoard.BAD);
        CHECK.due("classIf(1, 1, 101)", x.classIf(1, 1, 101), ExamBoard.NONE);
        CHECK.due("classIf(-1, 1, 50)", x.classIf(-1, 1, 50), ExamBoard.NONE);
        CHECK.due("classIf(0, 2, 101)", x.classIf(0, 2, 101), ExamBoard.NONE);
        CHECK.due("classIf(0, -1, 50)", x.classIf(0, -1, 50), ExamBoard.NONE);
    }

    private static void classIfCompensated() {
        CHECK.about("promise 22, compensation");
        ExamBoard x = new ExamBoard();
        x.addModule(1);
        x.addPaper(0, 1, 100);
        x.addPaper(0, 1, 100);
        x.addPaper(0, 1, 100);
        x.set(2, 1);
        Check.addStudent(x, 0, 60, 80, 30);
        CHECK.due("as it is", x.classIf(0, 0, 60), 3);
        CHECK.due("a second one to be compensated", x.classIf(0, 0, 39), 5);
        CHECK.due("the other one passed", x.classIf(0, 2, 40), 2);
        CHECK.due("the other one below the low mark", x.classIf(0, 2, 29), 5);
    }

    private static void needed() {
        CHECK.about("promise 23");
        ExamBoard x = Check.withModules(1, 1);
        Check.addStudent(x, 0, 70, 70);
        Check.addStudent(x, 0, 70, 60);
        Check.addStudent(x, 0, 20, 70);
        Check.addStudent(x, 0, 45);
        Check.addStudent(x, 0, 20);
        CHECK.due("class 1", x.needed(0, 0), ExamBoard.NOTHING);
        CHECK.due("class 2, by the border", x.needed(1, 1), 66);
        CHECK.due("class 2, by the other paper", x.needed(1, 0), 76);
        CHECK.due("class 5", x.needed(2, 0), 40);
        CHECK.due("class 5, by the wrong paper", x.needed(2, 1), ExamBoard.NOTHING);
        CHECK.due("class 0", x.needed(3, 1), 40);
        CHECK.due("class 0, by the wrong paper", x.needed(3, 0), ExamBoard.NOTHING);
        CHECK.due("class 0, and never passed", x.needed(4, 1), ExamBoard.NOTHING);
        CHECK.due("the same classes", x.student(3, 2), 0);
        CHECK.due("needed(5, 0)", x.needed(5, 0), ExamBoard.NONE);
        CHECK.due("needed(-1, 0)", x.needed(-1, 0), ExamBoard.NONE);
        CHECK.due("needed(0, 2)", x.needed(0, 2), ExamBoard.NONE);
        CHECK.due("needed(0, -1)", x.needed(0, -1), ExamBoard.NONE);
        ExamBoard y = Check.withModules(1);
        Check.addStudent(y, 0, 100);
        Check.addStudent(y, 0, 60);
        y.set(3, 5);
        CHECK.due("at its present mark", y.needed(0, 0), ExamBoard.NOTHING);
        CHECK.due("class 2 to 1", y.needed(1, 0), 70);
    }

    private static void neededWithCompensation() {
        CHECK.about("promise 23, compensation");
        ExamBoard x = new ExamBoard();
        x.addModule(1);
        x.addPaper(0, 1, 100);
        x.addPaper(0, 1, 100);
        Check.addStudent(x, 0, 10, 45);
        CHECK.due("class 5", x.student(0, 2), 5);
        CHECK.due("a mark that is compensated", x.needed(0, 0), 34);
        x.set(2, 0);
        CHECK.due("no compensation", x.needed(0, 0), 40);
        x.undo();
        x.set(1, 0);
        Check.addStudent(x, 0, 0);
        CHECK.due("low mark 0", x.needed(0, 0), 34);
        // (0 + 79) / 2 = 39.5, that is 40
        CHECK.due("low mark 0, the other paper", x.needed(1, 1), 79);
    }

    private static void neededEdges() {
        CHECK.about("promise 23, the marks 0 and 100");
        ExamBoard x = Check.withModules(1, 1);
        x.set(3, 0);
        Check.addStudent(x, 0, 40, 70);
        CHECK.due("50 and 70", x.needed(0, 0), 50);
        Check.addStudent(x, 0, 50, 40);
        CHECK.due("50 and 50", x.needed(1, 1), 50);
        Check.addStudent(x, 0, 40, 60);
        CHECK.due("class 3", x.student(2, 2), 3);
        CHECK.due("60 and 60", x.needed(2, 0), 60);
        Check.addStudent(x, 0, 40, 50);
        CHECK.due("class 4", x.student(3, 2), 4);
        CHECK.due("40 and 60", x.needed(3, 1), 60);
        ExamBoard y = Check.withModules(1, 1);
        y.set(3, 0);
        Check.addStudent(y, 0, 40, 95);
        CHECK.due("class 2", y.student(0, 2), 2);
        CHECK.due("40 and 100", y.needed(0, 1), 100);
        Check.addStudent(y, 0, 40, 40);
        y.set(0, 41);
        CHECK.due("none", y.needed(1, 1), ExamBoard.NOTHING);
        ExamBoard z = new ExamBoard();
        z.addModule(1);
        z.addPaper(0, 1, 100);
        z.addPaper(0, 1, 100);
        z.set(1, 0);
        Check.addStudent(z, 0, 100);
        CHECK.due("0 is compensated", z.needed(0, 1), 0);
    }

    /** A greater mark can be worse: it can use up a compensation that another paper needs. */
    private static void neededSkips() {
        CHECK.about("promise 23, a greater mark that is worse");
        ExamBoard x = new ExamBoard();
        x.addModule(1);
        x.addModule(1);
        x.addPaper(0, 1, 100);
        x.addPaper(0, 1, 100);
        x.addPaper(1, 1, 100);
        x.addPaper(1, 1, 100);
        x.set(2, 1);
        Check.addStudent(x, 0, 20, 100, 35, 100);
        CHECK.due("class", x.student(0, 2), 5);
        CHECK.due("failed at 30, as 0 takes the compensation", x.classIf(0, 0, 30), 5);
        CHECK.due("needed", x.needed(0, 0), 40);
        Check.addStudent(x, 0, 100, 35, 0, 100);
        CHECK.due("needed for the second module", x.needed(1, 2), 40);
    }

    private static void changedIf() {
        CHECK.about("promise 24");
        ExamBoard x = Check.withModules(1);
        CHECK.due("without students", x.changedIf(0, 60), 0);
        for (int mark : new int[] {39, 40, 45, 59, 60, -1, 80}) {
            Check.addStudent(x, 0, mark);
        }
        CHECK.due("changedIf(0, 40)", x.changedIf(0, 40), 0);
        CHECK.due("changedIf(0, 39)", x.changedIf(0, 39), 1);
        CHECK.due("changedIf(0, 45)", x.changedIf(0, 45), 1);
        CHECK.due("changedIf(0, 46)", x.changedIf(0, 46), 2);
        CHECK.due("changedIf(0, 60)", x.changedIf(0, 60), 3);
        CHECK.due("the setting stays", x.account(11), 40);
        CHECK.due("the class stays", x.student(3, 2), 3);
        CHECK.due("no change", x.account(10), 8);
        int[] least = {30, 0, 0, 0, 0};
        int[] greatest = {60, 60, 8, 5, 100};
        for (int what = 0; what < 5; what++) {
            CHECK.due("too low for " + what, x.changedIf(what, least[what] - 1), ExamBoard.BAD);
            CHECK.due("too high for " + what, x.changedIf(what, greatest[what] + 1), ExamBoard.BAD);
            CHECK.due("least for " + what, x.changedIf(what, least[what]) >= 0, true);
            CHECK.due("greatest for " + what, x.changedIf(what, greatest[what]) >= 0, true);
        }
        CHECK.due("changedIf(-1, 2)", x.changedIf(-1, 2), ExamBoard.BAD);
        CHECK.due("changedIf(5, 2)", x.changedIf(5, 2), ExamBoard.BAD);
    }

    private static void changedIfOfEach() {
        CHECK.about("promise 24, each setting");
        ExamBoard x = new ExamBoard();
        x.addModule(1);
        x.addPaper(0, 1, 100);
        x.addPaper(0, 1, 100);
        Check.addStudent(x, 0, 35, 60);
        Check.addStudent(x, 0, 20, 100);
        Check.addStudent(x, 0, 30, 30);
        x.resit(2, 0, 100);
        x.resit(2, 1, 100);
        CHECK.due("a greater low mark", x.changedIf(1, 36), 1);
        CHECK.due("a lesser low mark", x.changedIf(1, 20), 1);
        CHECK.due("no compensations", x.changedIf(2, 0), 1);
        CHECK.due("one compensation", x.changedIf(2, 1), 0);
        CHECK.due("a lesser cap", x.changedIf(4, 39), 1);
        CHECK.due("a greater cap", x.changedIf(4, 49), 0);
        CHECK.due("a greater cap still", x.changedIf(4, 50), 1);
        CHECK.due("the border", x.changedIf(3, 5), 0);
        ExamBoard y = Check.withModules(1, 1);
        Check.addStudent(y, 0, 70, 66);
        Check.addStudent(y, 0, 70, 60);
        Check.addStudent(y, 0, 70, 64);
        CHECK.due("a lesser border", y.changedIf(3, 1), 1);
        CHECK.due("a greater border", y.changedIf(3, 3), 1);
        CHECK.due("the greatest border", y.changedIf(3, 5), 2);
    }
}
