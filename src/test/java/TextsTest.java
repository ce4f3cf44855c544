/** Promises 25 to 29: append, read, refusal, write, written. */
public final class TextsTest {
    private static final Check CHECK = new Check();

    public static void main(String[] args) {
        append();
        readKinds();
        readFaults();
        readEmpties();
        readNumbers();
        readAllOrNone();
        readInOrder();
        readAsOneChange();
        readLongest();
        refusal();
        refusalOfText();
        refusalIsKept();
        write();
        writeVerdicts();
        written();
        CHECK.end();
    }

    private static void append() {
        CHECK.about("promise 25");
        ExamBoard x = new ExamBoard();
        CHECK.due("append(31)", x.append(31), ExamBoard.BAD);
        CHECK.due("append(127)", x.append(127), ExamBoard.BAD);
        CHECK.due("append(-1)", x.append(-1), ExamBoard.BAD);
        CHECK.due("append(65536 + 48)", x.append(65536 + 48), ExamBoard.BAD);
        CHECK.due("append(32)", x.append(32), 1);
        CHECK.due("append(126)", x.append(126), 2);
        for (int length = 3; length <= 80; length++) {
            CHECK.due("the character " + length, x.append(48), length);
        }
        CHECK.due("the 81st", x.append(48), ExamBoard.FULL);
        CHECK.due("the 81st, out of range", x.append(31), ExamBoard.BAD);
        CHECK.due("account(9)", x.account(9), 80);
        CHECK.due("no change", x.account(10), 0);
    }

    private static ExamBoard withStudents() {
        ExamBoard x = Check.withModules(1, 1);
        x.addStudent(0);
        x.addStudent(0);
        return x;
    }

    private static void readKinds() {
        CHECK.about("promise 26, kinds");
        ExamBoard x = withStudents();
        CHECK.due("m", Check.read(x, "m0.1=35"), 1);
        CHECK.due("raw mark", x.attempt(0, 1, 0), 35);
        CHECK.due("r", Check.read(x, "r0.1=38"), 1);
        CHECK.due("raw mark of the resit", x.attempt(0, 1, 3), 38);
        CHECK.due("e", Check.read(x, "e1.0"), 1);
        CHECK.due("with an excuse", x.attempt(1, 0, 7), 2);
        CHECK.due("a", Check.read(x, "a1.1"), 1);
        CHECK.due("without one", x.attempt(1, 1, 7), 1);
        CHECK.due("x", Check.read(x, "x0.1;x1.0"), 2);
        CHECK.due("one is left", x.account(3), 1);
        CHECK.due("it is the last", x.entered(0, 1), 1);
    }

    private static void readFaults() {
        CHECK.about("promise 26, fault positions");
        Object[][] rows = {{"", 0}, {" ", 0}, {"M0.0=1", 0}, {";", 0}, {"0", 0}, {"m", 1}, {"m.", 1}, {"mm", 1},
            {"m0", 2}, {"m0=", 2}, {"m0;", 2}, {"m0 ", 2}, {"m000", 4}, {"m0000", 4}, {"m000.", 5}, {"m0..", 3},
            {"m0.0", 4}, {"m0.0;", 4}, {"m0.0.", 4}, {"m0.0=", 5}, {"m0.0=;", 5}, {"m0.0=-1", 5}, {"m0.0000", 6},
            {"m0.0=1.", 6}, {"m0.0=1=", 6}, {"m0.0=1 ", 6}, {"m0.0=1;", 7}, {"m0.0=1;;", 7}, {"m0.0=1000", 8},
            {"r0.0=000;m", 10}, {"r0.0=0000", 8}, {"e0.0=", 4}, {"e0.0=1", 4}, {"a0.0e", 4}, {"x0.0000", 6},
            {"e0.0;y0.0", 5}, {"e0.0;e0.0;e0.", 13}, {"e0.0;e0.0,", 9}, {"m9.9=999;q", 9}, {"xx0.0", 1},
            {"e/.0", 1}, {"e:.0", 1}, {"e0.0:", 4}, {"e0.0/", 4}};
        for (Object[] row : rows) {
            ExamBoard x = withStudents();
            CHECK.due("read \"" + row[0] + "\"", Check.read(x, (String) row[0]), -1000 - (int) row[1]);
            CHECK.due("nothing is entered", x.account(3), 0);
            CHECK.due("nothing is refused", x.refusal(0), ExamBoard.NOTHING);
            CHECK.due("no change", x.account(10), 6);
        }
    }

    private static void readEmpties() {
        CHECK.about("promise 26, the text is empty then");
        ExamBoard x = withStudents();
        for (String text : new String[] {"m0.0=50", "m0.0=50", "m0.0=", ""}) {
            Check.read(x, text);
            CHECK.due("account(9) after \"" + text + "\"", x.account(9), 0);
            CHECK.due("read()", x.read(), -1000);
        }
        CHECK.due("append(48)", x.append(48), 1);
    }

    private static void readNumbers() {
        CHECK.about("promise 26, numbers");
        ExamBoard x = new ExamBoard();
        x.addModule(1);
        for (int paper = 0; paper < 8; paper++) {
            x.addPaper(0, 1, 200);
        }
        for (int student = 0; student < 20; student++) {
            x.addStudent(0);
        }
        CHECK.due("zeros at the front", Check.read(x, "m007.005=009;m07.04=09;m7.3=200;m19.7=123"), 4);
        CHECK.due("attempt(7, 5, 0)", x.attempt(7, 5, 0), 9);
        CHECK.due("attempt(7, 4, 0)", x.attempt(7, 4, 0), 9);
        CHECK.due("attempt(7, 3, 0)", x.attempt(7, 3, 0), 200);
        CHECK.due("attempt(19, 7, 0)", x.attempt(19, 7, 0), 123);
        CHECK.due("a great mark", Check.read(x, "m0.0=999"), ExamBoard.REFUSED);
        CHECK.due("it is not that of the next text", Check.read(x, "e0.0"), 1);
        CHECK.due("no such student", Check.read(x, "e020.0"), ExamBoard.REFUSED);
        CHECK.due("refusal(2)", x.refusal(2), 20);
        CHECK.due("no such paper", Check.read(x, "e0.999"), ExamBoard.REFUSED);
        CHECK.due("refusal(2)", x.refusal(2), 999);
        CHECK.due("no such student", Check.read(x, "m987.999=999"), ExamBoard.REFUSED);
        CHECK.due("refusal(2)", x.refusal(2), 987);
    }

    private static void readAllOrNone() {
        CHECK.about("promise 26, all or none");
        ExamBoard x = withStudents();
        x.mark(0, 0, 30);
        x.resit(0, 0, 40);
        CHECK.due("the last is refused", Check.read(x, "m1.0=50;x0.0;m0.0=60;m0.0=70"), ExamBoard.REFUSED);
        CHECK.due("first attempts", x.account(3), 1);
        CHECK.due("the old mark", x.attempt(0, 0, 0), 30);
        CHECK.due("the old resit", x.attempt(0, 0, 3), 40);
        CHECK.due("the order", x.entered(0, 0), 0);
        CHECK.due("nothing of 1", x.attempt(1, 0, 0), ExamBoard.NOTHING);
        CHECK.due("the raw marks of the cohort", x.scaling(0, 0, 2), 1);
        CHECK.due("their mean", x.scaling(0, 0, 3), 30);
        CHECK.due("changes", x.account(10), 8);
        CHECK.due("the fault comes before the refusal", Check.read(x, "m9.9=1;q"), -1007);
        CHECK.due("its reason is not kept", x.refusal(0), 4);
    }

    private static void readInOrder() {
        CHECK.about("promise 26, one after the other");
        ExamBoard x = withStudents();
        CHECK.due("each on what is before it", Check.read(x, "m0.0=20;r0.0=50;x0.0;e0.0;r0.0=50"), 5);
        CHECK.due("mark", x.attempt(0, 0, 5), 50);
        CHECK.due("twice the same", Check.read(x, "m1.0=10;m1.0=10"), ExamBoard.REFUSED);
        CHECK.due("refusal(0)", x.refusal(0), 4);
        CHECK.due("refusal(1)", x.refusal(1), 1);
        x.scale(1, 0, 3, 45);
        CHECK.due("the shift of the moment", Check.read(x, "m0.1=20;r0.1=50"), ExamBoard.REFUSED);
        CHECK.due("refusal(0)", x.refusal(0), 7);
        CHECK.due("refusal(2), the scaled mark of the moment", x.refusal(2), 45);
        CHECK.due("another mark is in the mean", Check.read(x, "m0.1=20;m1.1=40;r0.1=50"), 3);
        CHECK.due("scaled", x.attempt(0, 1, 2), 35);
    }

    private static void readAsOneChange() {
        CHECK.about("promise 26, one change");
        ExamBoard x = withStudents();
        Check.read(x, "m0.0=50;m0.1=60;m1.0=70");
        CHECK.due("account(10)", x.account(10), 7);
        CHECK.due("undo()", x.undo(), 6);
        CHECK.due("account(3)", x.account(3), 0);
        CHECK.due("nothing is changed in the end", Check.read(x, "e0.0;x0.0"), 2);
        CHECK.due("a change all the same", x.account(10), 7);
    }

    private static void readLongest() {
        CHECK.about("promise 26, 80 characters");
        ExamBoard x = withStudents();
        StringBuilder text = new StringBuilder("e0.0");
        for (int i = 1; i < 16; i++) {
            text.append(i % 2 == 1 ? ";x0.0" : ";e0.0");
        }
        CHECK.due("16 entries", Check.read(x, text.toString()), 16);
        CHECK.due("16 entries and a semicolon", Check.read(x, text + ";"), -1080);
        CHECK.due("a seventeenth is cut off", Check.read(x, text + ";e0.0"), -1080);
        CHECK.due("80 characters", Check.read(x, text.substring(0, 75) + "x0.00"), 16);
    }

    private static void dueRefusal(ExamBoard x, int reason, int entry, int about) {
        CHECK.due("refusal(0)", x.refusal(0), reason);
        CHECK.due("refusal(1)", x.refusal(1), entry);
        CHECK.due("refusal(2)", x.refusal(2), about);
    }

    private static void refusal() {
        CHECK.about("promise 27");
        ExamBoard x = withStudents();
        for (int what = 0; what < 3; what++) {
            CHECK.due("refusal(" + what + ")", x.refusal(what), ExamBoard.NOTHING);
        }
        CHECK.due("refusal(-1)", x.refusal(-1), ExamBoard.BAD);
        CHECK.due("refusal(3)", x.refusal(3), ExamBoard.BAD);
        x.remove(0, 1);
        dueRefusal(x, 5, ExamBoard.NOTHING, 1);
        CHECK.due("refusal(3)", x.refusal(3), ExamBoard.BAD);
        x.mark(0, 1, 77);
        x.resit(0, 1, 10);
        dueRefusal(x, 7, ExamBoard.NOTHING, 77);
    }

    private static void refusalOfText() {
        CHECK.about("promise 27, texts");
        ExamBoard x = withStudents();
        Check.read(x, "e9.0");
        dueRefusal(x, 1, 0, 9);
        Check.read(x, "e0.0;a0.8");
        dueRefusal(x, 2, 1, 8);
        Check.read(x, "e0.0;e0.1;m1.0=101");
        dueRefusal(x, 3, 2, 100);
        Check.read(x, "e0.0;e0.0");
        dueRefusal(x, 4, 1, 0);
        Check.read(x, "e0.0;r0.1=5");
        dueRefusal(x, 5, 1, 1);
        Check.read(x, "x0.1");
        dueRefusal(x, 5, 0, 1);
        Check.read(x, "e0.1;r0.1=5;r0.1=5");
        dueRefusal(x, 6, 2, 1);
        Check.read(x, "m0.1=63;r0.1=5");
        dueRefusal(x, 7, 1, 63);
        Check.read(x, "m0.1=63;r0.1=101");
        dueRefusal(x, 3, 1, 100);
        x.remove(0, 0);
        dueRefusal(x, 5, ExamBoard.NOTHING, 0);
    }

    private static void refusalIsKept() {
        CHECK.about("promise 27, kept");
        ExamBoard x = withStudents();
        x.save();
        x.mark(0, 0, 50);
        x.mark(0, 0, 60);
        dueRefusal(x, 4, ExamBoard.NOTHING, 0);
        x.undo();
        dueRefusal(x, 4, ExamBoard.NOTHING, 0);
        x.mark(0, 1, 60);
        Check.read(x, "e1.0");
        dueRefusal(x, 4, ExamBoard.NOTHING, 0);
        x.restore();
        dueRefusal(x, 4, ExamBoard.NOTHING, 0);
        Check.read(x, "e1.0;q");
        dueRefusal(x, 4, ExamBoard.NOTHING, 0);
    }

    private static void dueRecord(ExamBoard x, int student, String record) {
        CHECK.due("write(" + student + ")", x.write(student), record.length());
        CHECK.due("the record", Check.written(x), record);
    }

    private static void write() {
        CHECK.about("promise 28");
        ExamBoard x = new ExamBoard();
        x.addModule(1);
        for (int paper = 0; paper < 6; paper++) {
            x.addPaper(0, 1, 100);
        }
        x.addStudent(0);
        dueRecord(x, 0, "");
        x.mark(0, 5, 100);
        x.mark(0, 2, 39);
        x.resit(0, 2, 39);
        x.mark(0, 0, 7);
        x.resit(0, 0, 60);
        x.absent(0, 3, 0);
        dueRecord(x, 0, "0:40r;2:39f;3:0f;5:100");
        x.resit(0, 3, 20);
        dueRecord(x, 0, "0:40r;2:39f;3:20rf;5:100");
        x.set(4, 0);
        dueRecord(x, 0, "0:7f;2:39f;3:0f;5:100");
        CHECK.due("write(1)", x.write(1), ExamBoard.NONE);
        CHECK.due("write(-1)", x.write(-1), ExamBoard.NONE);
        CHECK.due("still the old one", Check.written(x), "0:7f;2:39f;3:0f;5:100");
        x.addStudent(0);
        dueRecord(x, 1, "");
    }

    private static void writeVerdicts() {
        CHECK.about("promise 28, compensation");
        ExamBoard x = new ExamBoard();
        x.addModule(1);
        for (int paper = 0; paper < 8; paper++) {
            x.addPaper(0, 1, 100);
        }
        Check.addStudent(x, 0, 35, 30, 35, 10, 100, 0, 100, 100);
        x.set(4, 35);
        x.resit(0, 1, 90);
        dueRecord(x, 0, "0:35c;1:35rc;2:35f;3:10f;4:100;5:0f;6:100;7:100");
        CHECK.due("no change by write", x.account(10), 8);
    }

    private static void written() {
        CHECK.about("promise 29");
        ExamBoard x = withStudents();
        CHECK.due("written(0)", x.written(0), ExamBoard.NONE);
        x.mark(0, 1, 8);
        x.save();
        CHECK.due("write(0)", x.write(0), 4);
        int[] codes = {'1', ':', '8', 'f'};
        for (int i = 0; i < codes.length; i++) {
            CHECK.due("written(" + i + ")", x.written(i), codes[i]);
        }
        CHECK.due("written(4)", x.written(4), ExamBoard.NONE);
        CHECK.due("written(-1)", x.written(-1), ExamBoard.NONE);
        x.remove(0, 1);
        CHECK.due("it is not written anew", Check.written(x), "1:8f");
        x.undo();
        x.undo();
        CHECK.due("undo leaves it", Check.written(x), "1:8f");
        x.restore();
        CHECK.due("restore leaves it", Check.written(x), "1:8f");
        CHECK.due("write(1)", x.write(1), 0);
        CHECK.due("written(0)", x.written(0), ExamBoard.NONE);
    }
}
