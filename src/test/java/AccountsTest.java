/** Promise 30: account. */
public final class AccountsTest {
    private static final Check CHECK = new Check();

    public static void main(String[] args) {
        accounts();
        resitsAndAbsences();
        credits();
        settings();
        CHECK.end();
    }

    private static void dueAccounts(ExamBoard x, int[] numbers) {
        for (int what = 0; what < numbers.length; what++) {
            CHECK.due("account(" + what + ")", x.account(what), numbers[what]);
        }
    }

    private static void accounts() {
        CHECK.about("promise 30");
        ExamBoard x = new ExamBoard();
        CHECK.due("account(-1)", x.account(-1), ExamBoard.BAD);
        CHECK.due("account(16)", x.account(16), ExamBoard.BAD);
        CHECK.due("account(MAX)", x.account(Integer.MAX_VALUE), ExamBoard.BAD);
        CHECK.due("account(MIN)", x.account(Integer.MIN_VALUE), ExamBoard.BAD);
        x.addModule(4);
        x.addModule(9);
        x.addModule(2);
        x.addPaper(0, 1, 100);
        x.addPaper(2, 1, 50);
        dueAccounts(x, new int[] {3, 2, 0, 0, 0, 0, 0, 6, 0, 0, 5, 40, 30, 2, 2, 40});
        Check.addStudent(x, 0, 62, 17);
        Check.addStudent(x, 1, 41);
        x.absent(1, 1, 0);
        x.append('m');
        x.append('0');
        // The marks 62, 34, 41 and 0; passed are the module 0 of both students
        dueAccounts(x, new int[] {3, 2, 2, 4, 0, 1, 137, 6, 8, 2, 8, 40, 30, 2, 2, 40});
        x.resit(1, 1, 25);
        x.resit(0, 1, 50);
        dueAccounts(x, new int[] {3, 2, 2, 4, 2, 1, 183, 6, 12, 2, 8, 40, 30, 2, 2, 40});
        x.remove(1, 1);
        x.scale(0, 0, 1, 10);
        dueAccounts(x, new int[] {3, 2, 2, 3, 1, 0, 153, 6, 10, 2, 8, 40, 30, 2, 2, 40});
        x.absent(1, 1, 1);
        dueAccounts(x, new int[] {3, 2, 2, 4, 1, 1, 153, 6, 10, 2, 8, 40, 30, 2, 2, 40});
        CHECK.due("account(-1)", x.account(-1), ExamBoard.BAD);
    }

    private static void resitsAndAbsences() {
        CHECK.about("promise 30, resits and absences of each paper");
        ExamBoard x = Check.withModules(1, 1);
        x.addStudent(0);
        x.absent(0, 0, 1);
        CHECK.due("account(5)", x.account(5), 1);
        x.absent(0, 1, 0);
        CHECK.due("account(5)", x.account(5), 2);
        x.resit(0, 0, 50);
        CHECK.due("account(4)", x.account(4), 1);
        x.resit(0, 1, 50);
        CHECK.due("account(4)", x.account(4), 2);
        CHECK.due("account(6)", x.account(6), 90);
    }

    private static void credits() {
        CHECK.about("promise 30, credits of passed modules");
        ExamBoard x = Check.withModules(3, 5);
        Check.addStudent(x, 0, 50);
        Check.addStudent(x, 0, 50, 50);
        Check.addStudent(x, 0, 10, 50);
        CHECK.due("an incomplete student too", x.account(8), 3 + 8 + 5);
        x.set(0, 51);
        CHECK.due("none passed", x.account(8), 0);
        CHECK.due("account(7)", x.account(7), 8);
    }

    private static void settings() {
        CHECK.about("promise 30, settings");
        ExamBoard x = new ExamBoard();
        int[] values = {51, 12, 7, 4, 99};
        for (int what = 0; what < 5; what++) {
            x.set(what, values[what]);
        }
        for (int what = 0; what < 5; what++) {
            CHECK.due("account(" + (11 + what) + ")", x.account(11 + what), values[what]);
        }
        CHECK.due("account(10)", x.account(10), 5);
    }
}
