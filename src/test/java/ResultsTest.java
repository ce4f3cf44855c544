/** Promises 16 to 21: module, student, again, why, ranked, ofClass. */
public final class ResultsTest {
    private static final Check CHECK = new Check();

    public static void main(String[] args) {
        moduleMarks();
        moduleNumbers();
        emptyModules();
        studentNumbers();
        averages();
        classesByAverage();
        border();
        borderCredits();
        exactLimits();
        again();
        whyIncomplete();
        whyFailed();
        whyAverage();
        ranks();
        ranksOfClasses();
        ofClass();
        CHECK.end();
    }

    private static void dueModule(ExamBoard x, int module, int[] numbers) {
        for (int what = 0; what < numbers.length; what++) {
            CHECK.due("module(0, " + module + ", " + what + ")", x.module(0, module, what), numbers[what]);
        }
    }

    private static void moduleMarks() {
        CHECK.about("promise 16, marks");
        ExamBoard x = new ExamBoard();
        x.addModule(1);
        x.addPaper(0, 3, 100);
        x.addPaper(0, 1, 100);
        Check.addStudent(x, 0, 50, 52);
        // 202 / 4 = 50.5
        CHECK.due("a half is rounded up", x.module(0, 0, 0), 51);
        x.remove(0, 1);
        CHECK.due("incomplete", x.module(0, 0, 0), ExamBoard.NOTHING);
        x.mark(0, 1, 51);
        CHECK.due("a quarter is rounded down", x.module(0, 0, 0), 50);
        x.remove(0, 1);
        x.absent(0, 1, 0);
        // 150 / 4 = 37.5
        CHECK.due("with an absence", x.module(0, 0, 0), 38);
        x.resit(0, 1, 99);
        // 190 / 4 = 47.5
        CHECK.due("with a resit", x.module(0, 0, 0), 48);
    }

    private static void moduleNumbers() {
        CHECK.about("promise 16");
        ExamBoard x = new ExamBoard();
        x.addModule(2);
        x.addModule(3);
        x.addPaper(0, 1, 100);
        x.addPaper(1, 1, 100);
        x.addPaper(0, 1, 100);
        x.addPaper(1, 1, 100);
        Check.addStudent(x, 0, 35, 70, 60);
        dueModule(x, 0, new int[] {48, 1, 2, 1, 2});
        dueModule(x, 1, new int[] {ExamBoard.NOTHING, 0, 1, 0, 2});
        x.mark(0, 3, 20);
        dueModule(x, 1, new int[] {45, 0, 2, 0, 2});
        x.set(1, 20);
        dueModule(x, 1, new int[] {45, 1, 2, 1, 2});
        x.set(2, 1);
        dueModule(x, 0, new int[] {48, 1, 2, 1, 2});
        dueModule(x, 1, new int[] {45, 0, 2, 0, 2});
        CHECK.due("module(0, 0, 5)", x.module(0, 0, 5), ExamBoard.BAD);
        CHECK.due("module(0, 0, -1)", x.module(0, 0, -1), ExamBoard.BAD);
        CHECK.due("module(1, 0, 5)", x.module(1, 0, 5), ExamBoard.NONE);
        CHECK.due("module(-1, 0, 0)", x.module(-1, 0, 0), ExamBoard.NONE);
        CHECK.due("module(0, 2, 5)", x.module(0, 2, 5), ExamBoard.NONE);
        CHECK.due("module(0, -1, 0)", x.module(0, -1, 0), ExamBoard.NONE);
    }

    private static void emptyModules() {
        CHECK.about("modules without papers");
        ExamBoard x = new ExamBoard();
        x.addModule(9);
        x.addModule(1);
        x.addStudent(0);
        dueModule(x, 0, new int[] {ExamBoard.NOTHING, 0, 0, 0, 0});
        CHECK.due("class when none counts", x.student(0, 2), 0);
        CHECK.due("again when none counts", x.again(0), 0);
        x.addPaper(1, 1, 100);
        x.mark(0, 0, 80);
        dueModule(x, 0, new int[] {ExamBoard.NOTHING, 0, 0, 0, 0});
        CHECK.due("class", x.student(0, 2), 1);
        CHECK.due("again", x.again(0), 1);
        CHECK.due("average", x.student(0, 1), 8000);
        CHECK.due("credits", x.student(0, 3), 1);
        CHECK.due("account(0)", x.account(0), 2);
        CHECK.due("account(7)", x.account(7), 1);
        CHECK.due("why(0, 0)", x.why(0, 0), 4);
    }

    private static void studentNumbers() {
        CHECK.about("promise 17");
        ExamBoard x = new ExamBoard();
        x.addModule(2);
        x.addModule(3);
        x.addPaper(0, 1, 100);
        x.addPaper(0, 1, 100);
        x.addPaper(1, 1, 100);
        x.addPaper(1, 1, 100);
        Check.addStudent(x, 2, 35, 60, 70);
        dueStudent(x, new int[] {2, ExamBoard.NOTHING, 0, 2, 1, 0, 0, 3, 0});
        x.mark(0, 3, 15);
        // (48 * 2 + 43 * 3) * 100 / 5 = 4500
        dueStudent(x, new int[] {2, 4500, 5, 2, 1, 1, 0, 4, 0});
        x.resit(0, 3, 25);
        // the second module has the mark 47.5, that is 48
        dueStudent(x, new int[] {2, 4800, 5, 2, 1, 1, 0, 4, 1});
        x.set(1, 25);
        dueStudent(x, new int[] {2, 4800, 4, 5, 2, 0, 0, 4, 1});
        x.resit(0, 0, 10);
        dueStudent(x, new int[] {2, 4800, 4, 5, 2, 0, 0, 4, 2});
        CHECK.due("why(0, 0), near the border, but no module at the limit", x.why(0, 0), 4);
        CHECK.due("student(0, 9)", x.student(0, 9), ExamBoard.BAD);
        CHECK.due("student(0, -1)", x.student(0, -1), ExamBoard.BAD);
        CHECK.due("student(1, 9)", x.student(1, 9), ExamBoard.NONE);
        CHECK.due("student(-1, 0)", x.student(-1, 0), ExamBoard.NONE);
    }

    private static void dueStudent(ExamBoard x, int[] numbers) {
        for (int what = 0; what < numbers.length; what++) {
            CHECK.due("student(0, " + what + ")", x.student(0, what), numbers[what]);
        }
    }

    private static void averages() {
        CHECK.about("promise 17, the average");
        ExamBoard x = Check.withModules(1, 2, 4);
        Check.addStudent(x, 0, 50, 51, 53);
        // (50 + 102 + 212) / 7 = 52
        CHECK.due("exactly", x.student(0, 1), 5200);
        Check.addStudent(x, 0, 50, 51, 52);
        // 360 / 7 = 51.4285..
        CHECK.due("rounded down", x.student(1, 1), 5142);
        Check.addStudent(x, 0, 50, 50, 51);
        // 354 / 7 = 50.5714..
        CHECK.due("rounded down again", x.student(2, 1), 5057);
    }

    private static void classesByAverage() {
        CHECK.about("promise 17, the class");
        int[][] rows = {{100, 1}, {70, 1}, {69, 2}, {60, 2}, {59, 3}, {50, 3}, {49, 4}, {40, 4}, {39, 5}, {0, 5}};
        for (int[] row : rows) {
            ExamBoard x = Check.withModules(3);
            x.set(3, 0);
            Check.addStudent(x, 0, row[0]);
            CHECK.due("class of " + row[0], x.student(0, 2), row[1]);
            CHECK.due("again of " + row[0], x.again(0), row[1]);
        }
        ExamBoard x = Check.withModules(3);
        x.set(0, 60);
        Check.addStudent(x, 0, 59);
        CHECK.due("below another pass mark", x.student(0, 2), 5);
        x.set(0, 59);
        CHECK.due("at another pass mark", x.student(0, 2), 3);
    }

    /** Two modules of the same credits: the first one's mark decides about half of the credits. */
    private static void dueBorder(int border, int one, int other, int grade, int reason) {
        ExamBoard x = Check.withModules(1, 1);
        x.set(3, border);
        Check.addStudent(x, 0, one, other);
        String what = "border " + border + ", marks " + one + " and " + other;
        CHECK.due("class, " + what, x.student(0, 2), grade);
        CHECK.due("again, " + what, x.again(0), grade);
        CHECK.due("reason, " + what, x.why(0, 0), reason);
    }

    private static void border() {
        CHECK.about("classes, the border");
        dueBorder(2, 72, 65, 1, 3);
        dueBorder(2, 71, 65, 1, 3);
        dueBorder(2, 70, 66, 1, 3);
        dueBorder(2, 70, 65, 2, 4);
        dueBorder(2, 69, 69, 2, 4);
        dueBorder(1, 71, 65, 2, 4);
        dueBorder(1, 71, 67, 1, 3);
        dueBorder(0, 71, 68, 2, 4);
        dueBorder(0, 70, 70, 1, 4);
        dueBorder(5, 70, 60, 1, 3);
        dueBorder(5, 70, 59, 2, 4);
        dueBorder(5, 60, 50, 2, 3);
        dueBorder(5, 50, 40, 3, 3);
        dueBorder(4, 50, 41, 4, 4);
        dueBorder(2, 50, 46, 3, 3);
        dueBorder(2, 50, 45, 4, 4);
        dueBorder(2, 60, 56, 2, 3);
        dueBorder(2, 60, 55, 3, 4);
        dueBorder(2, 100, 36, 5, 2);
        dueBorder(2, 100, 38, 5, 2);
    }

    private static void borderCredits() {
        CHECK.about("classes, half of the credits");
        ExamBoard x = Check.withModules(2, 1, 1);
        Check.addStudent(x, 0, 70, 68, 66);
        CHECK.due("just half", x.student(0, 2), 1);
        CHECK.due("just half, again", x.again(0), 1);
        ExamBoard y = Check.withModules(2, 2, 1);
        Check.addStudent(y, 0, 71, 67, 69);
        CHECK.due("two of five", y.student(0, 2), 2);
        CHECK.due("two of five, again", y.again(0), 2);
        Check.addStudent(y, 0, 71, 67, 70);
        CHECK.due("three of five", y.student(1, 2), 1);
        CHECK.due("three of five, again", y.again(1), 1);
        ExamBoard z = Check.withModules(2, 1);
        z.addModule(9);
        Check.addStudent(z, 0, 71, 67);
        CHECK.due("an empty module does not count", z.student(0, 2), 1);
        CHECK.due("an empty module does not count, again", z.again(0), 1);
        ExamBoard w = Check.withModules(3, 4);
        Check.addStudent(w, 0, 76, 61);
        // (228 + 244) / 7 = 67.42, and 3 of 7 credits
        w.set(3, 5);
        CHECK.due("three of seven", w.student(0, 2), 2);
        CHECK.due("three of seven, again", w.again(0), 2);
        // (201 + 280) / 7 = 68.71, and 4 of 7 credits
        Check.addStudent(w, 0, 67, 70);
        CHECK.due("four of seven", w.student(1, 2), 1);
        CHECK.due("four of seven, again", w.again(1), 1);
    }

    private static void exactLimits() {
        CHECK.about("classes, just at the limit of the average");
        ExamBoard x = Check.withModules(1, 2);
        Check.addStudent(x, 0, 80, 65);
        CHECK.due("class without half of the credits", x.student(0, 2), 1);
        CHECK.due("again without half of the credits", x.again(0), 1);
        ExamBoard y = Check.withModules(9, 8, 4);
        y.set(0, 30);
        y.set(3, 5);
        // 1364 / 21 = 64.95.., and 1365 / 21 = 65
        Check.addStudent(y, 0, 72, 70, 39);
        CHECK.due("average", y.student(0, 1), 6495);
        CHECK.due("class just below the border", y.student(0, 2), 2);
        CHECK.due("again just below the border", y.again(0), 2);
        Check.addStudent(y, 0, 73, 70, 37);
        CHECK.due("average", y.student(1, 1), 6500);
        CHECK.due("class just at the border", y.student(1, 2), 1);
        CHECK.due("again just at the border", y.again(1), 1);
    }

    private static void again() {
        CHECK.about("promise 18");
        ExamBoard x = Check.withModules(3, 5, 8);
        CHECK.due("again(0)", x.again(0), ExamBoard.NONE);
        CHECK.due("again(-1)", x.again(-1), ExamBoard.NONE);
        Check.addStudent(x, 0, 70, 60);
        CHECK.due("incomplete", x.again(0), 0);
        x.mark(0, 2, 30);
        CHECK.due("failed", x.again(0), 5);
        for (int mark = 40; mark <= 100; mark++) {
            x.undo();
            x.mark(0, 2, mark);
            CHECK.due("as student(0, 2) with " + mark, x.again(0), x.student(0, 2));
        }
        CHECK.due("70, 60, 100", x.again(0), 1);
    }

    private static void dueWhy(ExamBoard x, int student, int reason, int number) {
        CHECK.due("why(" + student + ", 0)", x.why(student, 0), reason);
        CHECK.due("why(" + student + ", 1)", x.why(student, 1), number);
    }

    private static void whyIncomplete() {
        CHECK.about("promise 19, incomplete");
        ExamBoard x = new ExamBoard();
        x.addStudent(0);
        dueWhy(x, 0, 1, ExamBoard.NOTHING);
        x.addModule(1);
        dueWhy(x, 0, 1, ExamBoard.NOTHING);
        x.addModule(1);
        x.addModule(1);
        x.addPaper(2, 1, 100);
        x.addPaper(1, 1, 100);
        dueWhy(x, 0, 1, 1);
        x.mark(0, 1, 20);
        dueWhy(x, 0, 1, 2);
        x.addPaper(0, 1, 100);
        dueWhy(x, 0, 1, 0);
        CHECK.due("why(0, 2)", x.why(0, 2), ExamBoard.BAD);
        CHECK.due("why(0, -1)", x.why(0, -1), ExamBoard.BAD);
        CHECK.due("why(1, 2)", x.why(1, 2), ExamBoard.NONE);
        CHECK.due("why(-1, 0)", x.why(-1, 0), ExamBoard.NONE);
    }

    private static void whyFailed() {
        CHECK.about("promise 19, failed");
        ExamBoard x = new ExamBoard();
        x.addModule(1);
        x.addPaper(0, 1, 100);
        x.addPaper(0, 1, 100);
        x.addPaper(0, 1, 100);
        x.addPaper(0, 1, 100);
        Check.addStudent(x, 0, 35, 80, 29, 20);
        dueWhy(x, 0, 2, 2);
        x.set(2, 0);
        dueWhy(x, 0, 2, 0);
        x.set(2, 8);
        x.set(1, 20);
        dueWhy(x, 0, 4, 4100);
        CHECK.due("the mark", x.module(0, 0, 0), 41);
        x.set(0, 42);
        dueWhy(x, 0, 2, 0);
    }

    private static void whyAverage() {
        CHECK.about("promise 19, the average and the border");
        ExamBoard x = Check.withModules(1, 1);
        int[][] rows = {{75, 70, 4, 250}, {70, 70, 4, 0}, {71, 66, 3, -150}, {64, 61, 4, 250}, {60, 57, 3, -150},
            {50, 55, 4, 250}, {51, 46, 3, -150}, {45, 44, 4, 4450}, {40, 40, 4, 4000}};
        for (int[] row : rows) {
            int student = Check.addStudent(x, 0, row[0], row[1]);
            dueWhy(x, student, row[2], row[3]);
        }
    }

    private static void dueRanks(ExamBoard x, int... students) {
        for (int place = 0; place < students.length; place++) {
            CHECK.due("student(" + students[place] + ", 6)", x.student(students[place], 6), place);
        }
        for (int place = 0; place < students.length; place++) {
            CHECK.due("ranked(" + place + ")", x.ranked(place), students[place]);
        }
        CHECK.due("ranked(" + students.length + ")", x.ranked(students.length), ExamBoard.NONE);
        CHECK.due("ranked(-1)", x.ranked(-1), ExamBoard.NONE);
    }

    private static void ranks() {
        CHECK.about("promise 20");
        ExamBoard x = Check.withModules(1);
        dueRanks(x);
        for (int mark : new int[] {55, -1, 30, 72, 55, 90, -1, 35}) {
            Check.addStudent(x, 0, mark);
        }
        dueRanks(x, 5, 3, 0, 4, 7, 2, 1, 6);
        x.set(0, 60);
        dueRanks(x, 5, 3, 0, 4, 7, 2, 1, 6);
        x.undo();
        x.mark(6, 0, 55);
        dueRanks(x, 5, 3, 0, 4, 6, 7, 2, 1);
    }

    private static void ranksOfClasses() {
        CHECK.about("promise 20, the class before the average");
        ExamBoard x = Check.withModules(1, 1);
        Check.addStudent(x, 0, 69, 68);
        Check.addStudent(x, 0, 70, 66);
        Check.addStudent(x, 0, 100, 39);
        Check.addStudent(x, 0, 40, 40);
        Check.addStudent(x, 0, 100);
        Check.addStudent(x, 0, 40);
        // The classes 2, 1 by the border, 5, 4, and twice 0
        dueRanks(x, 1, 0, 3, 2, 4, 5);
    }

    private static void ofClass() {
        CHECK.about("promise 21");
        ExamBoard x = Check.withModules(1, 1);
        int[][] none = {{0, 0, -5}, {0, 0, -5}, {0, 0, -5}, {0, 0, -5}, {0, 0, -5}, {0, 0, -5}};
        dueClasses(x, none);
        Check.addStudent(x, 0, 71, 66);
        Check.addStudent(x, 0, 71, 72);
        Check.addStudent(x, 0, 80, 75);
        Check.addStudent(x, 0, 61, 65);
        Check.addStudent(x, 0, 20, 65);
        Check.addStudent(x, 0, 30, 30);
        Check.addStudent(x, 0, 50);
        // 6850, 7150 and 7750: 21750; 4250 and 3000: 7250
        dueClasses(x, new int[][] {{1, 0, -5}, {3, 1, 7250}, {1, 0, 6300}, {0, 0, -5}, {0, 0, -5}, {2, 0, 3625}});
        Check.addStudent(x, 0, 70, 71);
        Check.addStudent(x, 0, 30, 31);
        Check.addStudent(x, 0, 31, 30);
        // 28800 / 4; 13350 / 4 = 3337.5
        dueClasses(x, new int[][] {{1, 0, -5}, {4, 1, 7200}, {1, 0, 6300}, {0, 0, -5}, {0, 0, -5}, {4, 0, 3337}});
        CHECK.due("ofClass(-1, 0)", x.ofClass(-1, 0), ExamBoard.NONE);
        CHECK.due("ofClass(6, 9)", x.ofClass(6, 9), ExamBoard.NONE);
        CHECK.due("ofClass(0, 3)", x.ofClass(0, 3), ExamBoard.BAD);
        CHECK.due("ofClass(5, -1)", x.ofClass(5, -1), ExamBoard.BAD);
    }

    private static void dueClasses(ExamBoard x, int[][] rows) {
        for (int grade = 0; grade < rows.length; grade++) {
            for (int what = 0; what < 3; what++) {
                CHECK.due("ofClass(" + grade + ", " + what + ")", x.ofClass(grade, what), rows[grade][what]);
            }
        }
    }
}
