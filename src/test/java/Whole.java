import java.util.ArrayList;
import java.util.List;
import java.util.function.Supplier;

/**
 * All that the questions answer about a board: they are asked of new boards that were made alike, some at a
 * time, as the document promises nothing about an object after its 512th call.
 */
final class Whole {
    private static final int AT_A_TIME = 150;
    private static final List<String> QUESTIONS = questions();
    private static final List<String> PLAIN_QUESTIONS = plainQuestions();

    private Whole() {
    }

    /** All questions but those for the text and the reasons. */
    static List<Integer> of(Supplier<Trial> maker) {
        return answers(maker, QUESTIONS);
    }

    /** Only what was entered and set, without what follows from it. */
    static List<Integer> plain(Supplier<Trial> maker) {
        return answers(maker, PLAIN_QUESTIONS);
    }

    private static List<Integer> answers(Supplier<Trial> maker, List<String> questions) {
        List<Integer> all = new ArrayList<>();
        for (int start = 0; start < questions.size(); start += AT_A_TIME) {
            Trial trial = maker.get();
            for (String question : questions.subList(start, Math.min(start + AT_A_TIME, questions.size()))) {
                all.add(trial.ask(question));
            }
        }
        return all;
    }

    private static List<String> plainQuestions() {
        List<String> all = new ArrayList<>();
        for (int what = 0; what < 16; what++) {
            if (what != 9) {
                all.add("account(" + what + ")");
            }
        }
        for (int paper = 0; paper < 8; paper++) {
            add(all, "paper(" + paper + ", ", 0, 2);
            for (int cohort = 0; cohort < 3; cohort++) {
                add(all, "scaling(" + paper + ", " + cohort + ", ", 0, 3);
            }
        }
        for (int place = 0; place < 160; place++) {
            add(all, "entered(" + place + ", ", 0, 2);
        }
        for (int student = 0; student < 20; student++) {
            all.add("student(" + student + ", 0)");
            for (int paper = 0; paper < 8; paper++) {
                all.add("attempt(" + student + ", " + paper + ", 0)");
                all.add("attempt(" + student + ", " + paper + ", 3)");
            }
        }
        return all;
    }

    private static List<String> questions() {
        List<String> all = plainQuestions();
        for (int paper = 0; paper < 8; paper++) {
            add(all, "paper(" + paper + ", ", 3, 7);
            for (int cohort = 0; cohort < 3; cohort++) {
                add(all, "scaling(" + paper + ", " + cohort + ", ", 4, 6);
                all.add("scaled(" + paper + ", " + cohort + ", 37)");
            }
        }
        for (int student = 0; student < 20; student++) {
            add(all, "student(" + student + ", ", 1, 8);
            add(all, "why(" + student + ", ", 0, 1);
            all.add("again(" + student + ")");
            all.add("needed(" + student + ", " + student % 8 + ")");
            all.add("classIf(" + student + ", " + student % 8 + ", 55)");
            all.add("ranked(" + student + ")");
            for (int paper = 0; paper < 8; paper++) {
                all.add("attempt(" + student + ", " + paper + ", 6)");
                all.add("attempt(" + student + ", " + paper + ", 7)");
            }
            for (int module = 0; module < 4; module++) {
                add(all, "module(" + student + ", " + module + ", ", 0, 4);
            }
        }
        for (int grade = 0; grade < 6; grade++) {
            add(all, "ofClass(" + grade + ", ", 0, 2);
        }
        all.add("changedIf(0, 50)");
        all.add("changedIf(3, 5)");
        for (int index = 0; index < 80; index++) {
            all.add("written(" + index + ")");
        }
        return all;
    }

    /** A call with each of the last numbers from one to another. */
    private static void add(List<String> all, String start, int least, int greatest) {
        for (int number = least; number <= greatest; number++) {
            all.add(start + number + ")");
        }
    }
}
