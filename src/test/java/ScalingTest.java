/** Promises 13 to 15: scale, scaling, scaled. */
public final class ScalingTest {
    private static final Check CHECK = new Check();

    public static void main(String[] args) {
        scale();
        ruleOne();
        ruleTwo();
        ruleThree();
        ruleThreeHalves();
        scaling();
        scalingWithAbsences();
        onlyItsOwn();
        CHECK.end();
    }

    private static void scale() {
        CHECK.about("promise 13");
        ExamBoard x = Check.withModules(1, 1);
        CHECK.due("scale(2, 0, 9, 9)", x.scale(2, 0, 9, 9), ExamBoard.NONE);
        CHECK.due("scale(-1, 0, 0, 0)", x.scale(-1, 0, 0, 0), ExamBoard.NONE);
        CHECK.due("scale(0, 3, 9, 9)", x.scale(0, 3, 9, 9), ExamBoard.NONE);
        CHECK.due("scale(0, -1, 0, 0)", x.scale(0, -1, 0, 0), ExamBoard.NONE);
        CHECK.due("scale(0, 0, -1, 0)", x.scale(0, 0, -1, 0), ExamBoard.BAD);
        CHECK.due("scale(0, 0, 4, 0)", x.scale(0, 0, 4, 0), ExamBoard.BAD);
        int[][] edges = {{0, 0, 0}, {1, -30, 30}, {2, 50, 150}, {3, 0, 100}};
        int previous = 0;
        for (int[] edge : edges) {
            CHECK.due("too low for " + edge[0], x.scale(1, 2, edge[0], edge[1] - 1), ExamBoard.BAD);
            CHECK.due("too high for " + edge[0], x.scale(1, 2, edge[0], edge[2] + 1), ExamBoard.BAD);
            CHECK.due("least for " + edge[0], x.scale(1, 2, edge[0], edge[1]), previous);
            CHECK.due("greatest for " + edge[0], x.scale(1, 2, edge[0], edge[2]), edge[0]);
            CHECK.due("the rule", x.scaling(1, 2, 0), edge[0]);
            CHECK.due("its v", x.scaling(1, 2, 1), edge[2]);
            previous = edge[0];
        }
        CHECK.due("back to 0", x.scale(1, 2, 0, 0), 3);
        CHECK.due("v is 0 again", x.scaling(1, 2, 1), 0);
        CHECK.due("another cohort", x.scaling(1, 1, 0), 0);
    }

    private static void dueScaled(ExamBoard x, int[][] rows) {
        for (int[] row : rows) {
            CHECK.due("scaled(0, 0, " + row[0] + ")", x.scaled(0, 0, row[0]), row[1]);
        }
    }

    private static void ruleOne() {
        CHECK.about("promise 15, rules 0 and 1");
        ExamBoard x = Check.withModules(1);
        dueScaled(x, new int[][] {{0, 0}, {57, 57}, {100, 100}, {-1, ExamBoard.BAD}, {101, ExamBoard.BAD}});
        x.scale(0, 0, 1, 30);
        dueScaled(x, new int[][] {{0, 30}, {70, 100}, {71, 100}, {100, 100}});
        x.scale(0, 0, 1, -30);
        dueScaled(x, new int[][] {{0, 0}, {29, 0}, {30, 0}, {31, 1}, {100, 70}});
        CHECK.due("scaled(1, 0, 101)", x.scaled(1, 0, 101), ExamBoard.NONE);
        CHECK.due("scaled(-1, 0, 50)", x.scaled(-1, 0, 50), ExamBoard.NONE);
        CHECK.due("scaled(0, 3, 101)", x.scaled(0, 3, 101), ExamBoard.NONE);
        CHECK.due("scaled(0, -1, 50)", x.scaled(0, -1, 50), ExamBoard.NONE);
    }

    private static void ruleTwo() {
        CHECK.about("promise 15, rule 2");
        ExamBoard x = Check.withModules(1);
        x.scale(0, 0, 2, 50);
        dueScaled(x, new int[][] {{0, 25}, {47, 48}, {48, 49}, {49, 49}, {50, 50}, {51, 50}, {52, 51}, {100, 75}});
        x.scale(0, 0, 2, 150);
        dueScaled(x, new int[][] {{0, 0}, {17, 0}, {18, 2}, {49, 48}, {51, 51}, {83, 99}, {84, 100}, {100, 100}});
        x.scale(0, 0, 2, 99);
        dueScaled(x, new int[][] {{0, 0}, {1, 1}, {49, 49}, {50, 50}, {51, 50}, {99, 98}, {100, 99}});
    }

    private static void ruleThree() {
        CHECK.about("promise 15, rule 3");
        ExamBoard x = Check.withModules(1);
        x.scale(0, 0, 3, 60);
        dueScaled(x, new int[][] {{0, 0}, {50, 50}, {100, 100}});
        Check.addStudent(x, 0, 30);
        Check.addStudent(x, 0, 50);
        Check.addStudent(x, 1, 100);
        dueScaled(x, new int[][] {{0, 20}, {30, 50}, {50, 70}, {80, 100}, {81, 100}});
        CHECK.due("student 0", x.attempt(0, 0, 2), 50);
        CHECK.due("student 1", x.attempt(1, 0, 2), 70);
        CHECK.due("another cohort", x.attempt(2, 0, 2), 100);
        x.scale(0, 0, 3, 0);
        dueScaled(x, new int[][] {{0, 0}, {40, 0}, {41, 1}, {100, 60}});
        x.remove(1, 0);
        dueScaled(x, new int[][] {{30, 0}, {31, 1}, {100, 70}});
        x.remove(0, 0);
        dueScaled(x, new int[][] {{0, 0}, {50, 50}, {100, 100}});
    }

    private static void ruleThreeHalves() {
        CHECK.about("promise 15, rule 3, halves");
        ExamBoard x = Check.withModules(1);
        Check.addStudent(x, 0, 30);
        Check.addStudent(x, 0, 31);
        x.scale(0, 0, 3, 60);
        CHECK.due("the mean", x.scaling(0, 0, 3), 31);
        dueScaled(x, new int[][] {{30, 59}, {31, 60}});
        Check.addStudent(x, 0, 30);
        CHECK.due("the mean of three", x.scaling(0, 0, 3), 30);
        dueScaled(x, new int[][] {{30, 60}, {31, 61}});
    }

    private static void dueScaling(ExamBoard x, int[] numbers) {
        for (int what = 0; what < numbers.length; what++) {
            CHECK.due("scaling(0, 0, " + what + ")", x.scaling(0, 0, what), numbers[what]);
        }
    }

    private static void scaling() {
        CHECK.about("promise 14");
        ExamBoard x = Check.withModules(1);
        dueScaling(x, new int[] {0, 0, 0, ExamBoard.NOTHING, ExamBoard.NOTHING, 0, 0});
        int[] marks = {10, 20, 20, 65, 95};
        for (int mark : marks) {
            Check.addStudent(x, 0, mark);
        }
        dueScaling(x, new int[] {0, 0, 5, 42, 42, 0, 4});
        x.scale(0, 0, 1, -20);
        dueScaled(x, new int[][] {{10, 0}, {20, 0}, {65, 45}, {95, 75}});
        dueScaling(x, new int[] {1, -20, 5, 42, 24, 0, 3});
        x.scale(0, 0, 2, 150);
        // -10, 5, 5, 72, 117 become 0, 5, 5, 72, 100, with the sum 182
        dueScaling(x, new int[] {2, 150, 5, 42, 36, 0, 4});
        CHECK.due("scaling(0, 0, 7)", x.scaling(0, 0, 7), ExamBoard.BAD);
        CHECK.due("scaling(0, 0, -1)", x.scaling(0, 0, -1), ExamBoard.BAD);
        CHECK.due("scaling(1, 0, 7)", x.scaling(1, 0, 7), ExamBoard.NONE);
        CHECK.due("scaling(-1, 0, 0)", x.scaling(-1, 0, 0), ExamBoard.NONE);
        CHECK.due("scaling(0, 3, 7)", x.scaling(0, 3, 7), ExamBoard.NONE);
        CHECK.due("scaling(0, -1, 0)", x.scaling(0, -1, 0), ExamBoard.NONE);
    }

    private static void scalingWithAbsences() {
        CHECK.about("promise 14, absences and resits");
        ExamBoard x = new ExamBoard();
        x.addModule(1);
        x.addPaper(0, 1, 60);
        Check.addStudent(x, 0, 20);
        Check.addStudent(x, 0, 25);
        Check.addStudent(x, 1, 60);
        int absent = x.addStudent(0);
        x.absent(absent, 0, 0);
        x.resit(absent, 0, 60);
        x.resit(0, 0, 60);
        // 33 and 42: 37.5
        dueScaling(x, new int[] {0, 0, 2, 38, 38, 0, 2});
        x.scale(0, 0, 1, 30);
        dueScaling(x, new int[] {1, 30, 2, 38, 68, 0, 2});
        CHECK.due("an absence stays 0", x.attempt(absent, 0, 2), 0);
        CHECK.due("a resit is not scaled", x.attempt(absent, 0, 4), 40);
        x.remove(absent, 0);
        dueScaling(x, new int[] {1, 30, 2, 38, 68, 0, 2});
    }

    private static void onlyItsOwn() {
        CHECK.about("promise 13, other papers and cohorts");
        ExamBoard x = Check.withModules(1, 1);
        for (int cohort = 0; cohort < 3; cohort++) {
            Check.addStudent(x, cohort, 50, 50);
        }
        x.scale(1, 2, 1, 7);
        for (int student = 0; student < 3; student++) {
            CHECK.due("paper 0 of " + student, x.attempt(student, 0, 2), 50);
            CHECK.due("paper 1 of " + student, x.attempt(student, 1, 2), student == 2 ? 57 : 50);
            CHECK.due("percent of " + student, x.attempt(student, 1, 1), 50);
            CHECK.due("scaled(0, " + student + ", 60)", x.scaled(0, student, 60), 60);
            CHECK.due("scaled(1, " + student + ", 60)", x.scaled(1, student, 60), student == 2 ? 67 : 60);
        }
    }
}
