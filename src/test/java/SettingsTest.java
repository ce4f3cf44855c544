/** Promises 1 to 6: a new object, set, addModule, addPaper, addStudent, paper. */
public final class SettingsTest {
    private static final Check CHECK = new Check();

    public static void main(String[] args) {
        newObject();
        set();
        addModule();
        addPaper();
        addStudent();
        paperItself();
        paperCounts();
        CHECK.end();
    }

    private static void newObject() {
        CHECK.about("promise 1");
        ExamBoard x = new ExamBoard();
        for (int what = 0; what <= 10; what++) {
            CHECK.due("account(" + what + ")", x.account(what), 0);
        }
        int[] settings = {40, 30, 2, 2, 40};
        for (int what = 0; what < 5; what++) {
            CHECK.due("account(" + (11 + what) + ")", x.account(11 + what), settings[what]);
        }
        CHECK.due("paper(0, 0)", x.paper(0, 0), ExamBoard.NONE);
        CHECK.due("student(0, 0)", x.student(0, 0), ExamBoard.NONE);
        CHECK.due("ranked(0)", x.ranked(0), ExamBoard.NONE);
        CHECK.due("entered(0, 0)", x.entered(0, 0), ExamBoard.NONE);
        CHECK.due("written(0)", x.written(0), ExamBoard.NONE);
        CHECK.due("refusal(0)", x.refusal(0), ExamBoard.NOTHING);
        CHECK.due("undo()", x.undo(), ExamBoard.NOTHING);
        CHECK.due("restore()", x.restore(), ExamBoard.NOTHING);
        CHECK.due("NONE", ExamBoard.NONE, -1);
        CHECK.due("BAD", ExamBoard.BAD, -2);
        CHECK.due("FULL", ExamBoard.FULL, -3);
        CHECK.due("REFUSED", ExamBoard.REFUSED, -4);
        CHECK.due("NOTHING", ExamBoard.NOTHING, -5);
    }

    private static void set() {
        CHECK.about("promise 2");
        int[] first = {40, 30, 2, 2, 40};
        int[] least = {30, 0, 0, 0, 0};
        int[] greatest = {60, 60, 8, 5, 100};
        for (int what = 0; what < 5; what++) {
            ExamBoard x = new ExamBoard();
            CHECK.due("set " + what + " too low", x.set(what, least[what] - 1), ExamBoard.BAD);
            CHECK.due("set " + what + " too high", x.set(what, greatest[what] + 1), ExamBoard.BAD);
            CHECK.due("still the first", x.account(11 + what), first[what]);
            CHECK.due("no change", x.account(10), 0);
            CHECK.due("set " + what + " least", x.set(what, least[what]), first[what]);
            CHECK.due("is the least", x.account(11 + what), least[what]);
            CHECK.due("set " + what + " greatest", x.set(what, greatest[what]), least[what]);
            CHECK.due("is the greatest", x.account(11 + what), greatest[what]);
            CHECK.due("set " + what + " the same", x.set(what, greatest[what]), greatest[what]);
            CHECK.due("three changes", x.account(10), 3);
            for (int other = 0; other < 5; other++) {
                if (other != what) {
                    CHECK.due("setting " + other, x.account(11 + other), first[other]);
                }
            }
        }
        ExamBoard x = new ExamBoard();
        CHECK.due("set(-1, 40)", x.set(-1, 40), ExamBoard.BAD);
        CHECK.due("set(5, 40)", x.set(5, 40), ExamBoard.BAD);
        CHECK.due("set(MAX, 2)", x.set(Integer.MAX_VALUE, 2), ExamBoard.BAD);
        CHECK.due("set(0, MIN)", x.set(0, Integer.MIN_VALUE), ExamBoard.BAD);
    }

    private static void addModule() {
        CHECK.about("promise 3");
        ExamBoard x = new ExamBoard();
        CHECK.due("addModule(0)", x.addModule(0), ExamBoard.BAD);
        CHECK.due("addModule(10)", x.addModule(10), ExamBoard.BAD);
        CHECK.due("addModule(1)", x.addModule(1), 0);
        CHECK.due("addModule(9)", x.addModule(9), 1);
        CHECK.due("addModule(5)", x.addModule(5), 2);
        CHECK.due("addModule(5)", x.addModule(5), 3);
        CHECK.due("a fifth", x.addModule(5), ExamBoard.FULL);
        CHECK.due("a fifth with bad credits", x.addModule(0), ExamBoard.BAD);
        CHECK.due("account(0)", x.account(0), 4);
        CHECK.due("account(10)", x.account(10), 4);
    }

    private static void addPaper() {
        CHECK.about("promise 4");
        ExamBoard x = new ExamBoard();
        CHECK.due("without a module", x.addPaper(0, 0, 0), ExamBoard.NONE);
        x.addModule(1);
        CHECK.due("addPaper(-1, 1, 100)", x.addPaper(-1, 1, 100), ExamBoard.NONE);
        CHECK.due("addPaper(1, 1, 100)", x.addPaper(1, 1, 100), ExamBoard.NONE);
        CHECK.due("weight 0", x.addPaper(0, 0, 100), ExamBoard.BAD);
        CHECK.due("weight 10", x.addPaper(0, 10, 100), ExamBoard.BAD);
        CHECK.due("full 9", x.addPaper(0, 1, 9), ExamBoard.BAD);
        CHECK.due("full 201", x.addPaper(0, 1, 201), ExamBoard.BAD);
        CHECK.due("none added", x.account(1), 0);
        CHECK.due("the least", x.addPaper(0, 1, 10), 0);
        CHECK.due("the greatest", x.addPaper(0, 9, 200), 1);
        for (int number = 2; number < 8; number++) {
            CHECK.due("paper " + number, x.addPaper(0, 1, 100), number);
        }
        CHECK.due("a ninth", x.addPaper(0, 1, 100), ExamBoard.FULL);
        CHECK.due("a ninth of no module", x.addPaper(1, 0, 100), ExamBoard.NONE);
        CHECK.due("a ninth with a bad weight", x.addPaper(0, 0, 100), ExamBoard.BAD);
        CHECK.due("account(1)", x.account(1), 8);
    }

    private static void addStudent() {
        CHECK.about("promise 5");
        ExamBoard x = new ExamBoard();
        CHECK.due("addStudent(-1)", x.addStudent(-1), ExamBoard.BAD);
        CHECK.due("addStudent(3)", x.addStudent(3), ExamBoard.BAD);
        for (int number = 0; number < 20; number++) {
            CHECK.due("student " + number, x.addStudent(number % 3), number);
        }
        CHECK.due("the 21st", x.addStudent(0), ExamBoard.FULL);
        CHECK.due("the 21st of no cohort", x.addStudent(3), ExamBoard.BAD);
        CHECK.due("account(2)", x.account(2), 20);
        CHECK.due("cohort of 19", x.student(19, 0), 1);
    }

    private static void paperItself() {
        CHECK.about("promise 6");
        ExamBoard x = new ExamBoard();
        x.addModule(3);
        x.addModule(4);
        x.addPaper(1, 7, 60);
        x.addPaper(0, 2, 150);
        CHECK.due("paper(0, 0)", x.paper(0, 0), 1);
        CHECK.due("paper(0, 1)", x.paper(0, 1), 7);
        CHECK.due("paper(0, 2)", x.paper(0, 2), 60);
        CHECK.due("paper(1, 0)", x.paper(1, 0), 0);
        CHECK.due("paper(1, 1)", x.paper(1, 1), 2);
        CHECK.due("paper(1, 2)", x.paper(1, 2), 150);
        CHECK.due("paper(0, -1)", x.paper(0, -1), ExamBoard.BAD);
        CHECK.due("paper(0, 8)", x.paper(0, 8), ExamBoard.BAD);
        CHECK.due("paper(-1, 0)", x.paper(-1, 0), ExamBoard.NONE);
        CHECK.due("paper(2, 0)", x.paper(2, 0), ExamBoard.NONE);
        CHECK.due("paper(2, 8)", x.paper(2, 8), ExamBoard.NONE);
    }

    private static void paperCounts() {
        CHECK.about("promise 6, counts");
        ExamBoard x = new ExamBoard();
        x.addModule(1);
        x.addPaper(0, 1, 100);
        x.addPaper(0, 1, 100);
        Check.addStudent(x, 0, 35, 80);
        Check.addStudent(x, 0, 40, 20);
        Check.addStudent(x, 0, 39);
        int absent = x.addStudent(0);
        x.absent(absent, 0, 0);
        x.resit(absent, 0, 70);
        Check.addStudent(x, 0);
        CHECK.due("first attempts, an absence too", x.paper(0, 3), 4);
        CHECK.due("resits", x.paper(0, 4), 1);
        CHECK.due("passed", x.paper(0, 5), 2);
        CHECK.due("compensated", x.paper(0, 6), 1);
        CHECK.due("failed", x.paper(0, 7), 1);
        CHECK.due("first attempts of 1", x.paper(1, 3), 2);
        CHECK.due("resits of 1", x.paper(1, 4), 0);
        CHECK.due("passed of 1", x.paper(1, 5), 1);
        CHECK.due("compensated of 1", x.paper(1, 6), 0);
        CHECK.due("failed of 1", x.paper(1, 7), 1);
        CHECK.due("account(2)", x.account(2), 5);
    }
}
