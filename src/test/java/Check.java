import java.util.ArrayList;
import java.util.List;

/** Compares answers with those that are due, prints each that differs, and ends the program. */
final class Check {
    private final List<String> faults = new ArrayList<>();
    private int asked = 0;
    private String about = "";

    /** Names what the next comparisons are about. */
    void about(String what) {
        about = what;
    }

    void due(String call, Object got, Object want) {
        asked++;
        if (!want.equals(got)) {
            faults.add(about + ": " + call + " answered " + got + ", due is " + want);
        }
    }

    boolean failed() {
        return !faults.isEmpty();
    }

    /** Prints what was wrong; ends with exit code 1 if anything was, or if nothing was asked. */
    void end() {
        for (String fault : faults) {
            System.out.println(fault);
        }
        System.out.println(asked + " answers, " + faults.size() + " not as due");
        if (asked == 0 || failed()) {
            System.exit(1);
        }
    }

    /** Appends every character of a text to the text of entries. */
    static void type(ExamBoard board, String text) {
        for (int i = 0; i < text.length(); i++) {
            board.append(text.charAt(i));
        }
    }

    /** Appends a text and reads it. */
    static int read(ExamBoard board, String text) {
        type(board, text);
        return board.read();
    }

    /** The written text as a whole. */
    static String written(ExamBoard board) {
        StringBuilder text = new StringBuilder();
        for (int i = 0; board.written(i) >= 0; i++) {
            text.append((char) board.written(i));
        }
        return text.toString();
    }

    /** A board with modules of these credits, each with one paper of weight 1 and full mark 100. */
    static ExamBoard withModules(int... credits) {
        ExamBoard board = new ExamBoard();
        for (int number = 0; number < credits.length; number++) {
            board.addModule(credits[number]);
            board.addPaper(number, 1, 100);
        }
        return board;
    }

    /** Adds a student of a cohort with these marks in the papers 0, 1, ..; a mark below 0 is left out. */
    static int addStudent(ExamBoard board, int cohort, int... marks) {
        int student = board.addStudent(cohort);
        for (int paper = 0; paper < marks.length; paper++) {
            if (marks[paper] >= 0) {
                board.mark(student, paper, marks[paper]);
            }
        }
        return student;
    }
}
