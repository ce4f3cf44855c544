import java.util.Random;

/** Runs of calls, drawn from fixed seeds, on an ExamBoard and on a PlainBoard: all answers must be the same. */
public final class RunsTest {
    private static final int RUNS = 4000;
    private static final int CALLS = 512;
    private static final int CHANGES = 12;
    private static final int METHODS = 32;

    private final Check check;
    private final Random random;
    private final ExamBoard x = new ExamBoard();
    private final PlainBoard plain = new PlainBoard();
    private final boolean wild;
    private final int center;
    private final int spread;
    private final int gaps;
    private int calls = 0;

    private RunsTest(Check check, long seed) {
        this.check = check;
        this.random = new Random(seed);
        this.wild = random.nextInt(10) == 0;
        this.center = 30 + random.nextInt(45);
        this.spread = 3 + random.nextInt(45);
        this.gaps = random.nextInt(3) == 0 ? 12 : 500;
        check.about("run " + seed);
    }

    public static void main(String[] args) {
        Check check = new Check();
        for (int seed = 0; seed < RUNS && !check.failed(); seed++) {
            new RunsTest(check, seed).run();
        }
        check.end();
    }

    private void run() {
        setUp();
        while (calls < CALLS && !check.failed()) {
            if (random.nextInt(14) == 0) {
                readText();
            } else if (random.nextInt(4) == 0) {
                call(nextChange());
            } else {
                call(CHANGES + random.nextInt(METHODS - CHANGES));
            }
        }
    }

    /** Modules, papers and students come seldom: each new paper makes all students incomplete. */
    private int nextChange() {
        boolean growing = random.nextInt(12) == 0;
        int any = random.nextInt(CHANGES);
        return growing || any == 0 || any > 3 ? any : 4;
    }

    /** Most runs begin with a board on which much can happen. */
    private void setUp() {
        boolean bare = random.nextInt(10) == 0;
        int modules = bare ? 0 : 1 + random.nextInt(4);
        int papers = bare ? 0 : 1 + random.nextInt(8);
        int students = bare ? 0 : random.nextInt(4) == 0 ? 20 : 1 + random.nextInt(7);
        for (int i = 0; i < modules; i++) {
            call(1);
        }
        for (int i = 0; i < papers; i++) {
            call(2);
        }
        for (int i = 0; i < students; i++) {
            call(3);
        }
        for (int student = 0; student < students; student++) {
            for (int paper = 0; paper < papers && calls < 330; paper++) {
                if (random.nextInt(gaps) > 0) {
                    int raw = rawMark(paper);
                    due("mark(" + student + ", " + paper + ", " + raw + ")",
                        x.mark(student, paper, raw), plain.mark(student, paper, raw));
                }
            }
        }
    }

    private void due(String call, int got, int want) {
        calls++;
        check.due("call " + calls + ": " + call, got, want);
    }

    private int wildNumber() {
        int[] numbers = {Integer.MIN_VALUE, Integer.MAX_VALUE, -2, -1000, 1000, 1 << 30};
        return numbers[random.nextInt(numbers.length)];
    }

    /** A number from least to greatest, seldom one beside them. */
    private int number(int least, int greatest) {
        if (random.nextInt(40) == 0) {
            return wild ? wildNumber() : random.nextBoolean() ? least - 1 : greatest + 1;
        }
        return greatest < least ? least : least + random.nextInt(greatest - least + 1);
    }

    private int student() {
        return number(0, x.account(2) - 1);
    }

    private int paperNumber() {
        return number(0, x.account(1) - 1);
    }

    private int rawMark(int paper) {
        int full = x.paper(paper, 2);
        if (full < 0 || random.nextInt(12) == 0) {
            return number(0, 200);
        }
        int percent = center - spread + random.nextInt(2 * spread + 1);
        return Math.max(0, Math.min(full, full * percent / 100));
    }

    private int setting(int what) {
        int[] least = {30, 0, 0, 0, 0};
        int[] greatest = {60, 60, 8, 5, 100};
        return what < 0 || what > 4 ? number(0, 60) : number(least[what], greatest[what]);
    }

    private int ruleNumber(int rule) {
        int[] least = {0, -30, 50, 0};
        int[] greatest = {0, 30, 150, 100};
        return rule < 0 || rule > 3 ? number(0, 60) : number(least[rule], greatest[rule]);
    }

    private String entry() {
        int student = Math.max(0, student() % 1000);
        int paper = Math.max(0, paperNumber() % 1000);
        if (random.nextInt(3) > 0) {
            return entry("mmmrraexx".charAt(random.nextInt(9)), student, paper);
        }
        return entry('x', student, paper) + ";" + entry("mmae".charAt(random.nextInt(4)), student, paper)
            + (random.nextBoolean() ? ";" + entry('r', student, paper) : "");
    }

    private String entry(char kind, int student, int paper) {
        String pair = kind + (random.nextInt(9) == 0 ? "0" : "") + student + "." + paper;
        return kind == 'm' || kind == 'r' ? pair + "=" + Math.abs(rawMark(paper) % 1000) : pair;
    }

    private void readText() {
        StringBuilder text = new StringBuilder(entry());
        for (int i = random.nextInt(4); i > 0; i--) {
            text.append(';').append(entry());
        }
        if (random.nextInt(3) == 0) {
            spoil(text);
        }
        for (int i = 0; i < text.length() && calls < CALLS; i++) {
            int code = text.charAt(i);
            due("append(" + code + ")", x.append(code), plain.append(code));
        }
        due("read()", x.read(), plain.read());
    }

    private void spoil(StringBuilder text) {
        int at = random.nextInt(text.length());
        char sign = "mreax.=;0123456789 ~".charAt(random.nextInt(20));
        switch (random.nextInt(4)) {
            case 0:
                text.setCharAt(at, sign);
                break;
            case 1:
                text.insert(at, sign);
                break;
            case 2:
                text.deleteCharAt(at);
                break;
            default:
                text.setLength(at);
                break;
        }
    }

    private void call(int method) {
        if (method < CHANGES) {
            callChange(method);
        } else if (method < 22) {
            callQuestion(method);
        } else {
            callRest(method);
        }
    }

    private void callChange(int method) {
        int s = student();
        int p = paperNumber();
        int a;
        int b;
        int c;
        switch (method) {
            case 0:
                a = number(0, 4);
                b = setting(a);
                due("set(" + a + ", " + b + ")", x.set(a, b), plain.set(a, b));
                break;
            case 1:
                a = number(1, 9);
                due("addModule(" + a + ")", x.addModule(a), plain.addModule(a));
                break;
            case 2:
                a = number(0, x.account(0) - 1);
                b = number(1, 9);
                c = random.nextInt(3) == 0 ? number(10, 200) : 100;
                due("addPaper(" + a + ", " + b + ", " + c + ")", x.addPaper(a, b, c), plain.addPaper(a, b, c));
                break;
            case 3:
                a = number(0, 2);
                due("addStudent(" + a + ")", x.addStudent(a), plain.addStudent(a));
                break;
            case 4:
            case 5:
                a = random.nextInt(20) == 0 ? -1 : rawMark(p);
                due("mark(" + s + ", " + p + ", " + a + ")", x.mark(s, p, a), plain.mark(s, p, a));
                break;
            case 6:
                a = number(0, 1);
                due("absent(" + s + ", " + p + ", " + a + ")", x.absent(s, p, a), plain.absent(s, p, a));
                break;
            case 7:
            case 8:
                a = random.nextInt(20) == 0 ? -1 : rawMark(p);
                due("resit(" + s + ", " + p + ", " + a + ")", x.resit(s, p, a), plain.resit(s, p, a));
                break;
            case 9:
                due("remove(" + s + ", " + p + ")", x.remove(s, p), plain.remove(s, p));
                break;
            default:
                a = number(0, 2);
                b = number(0, 3);
                c = ruleNumber(b);
                due("scale(" + p + ", " + a + ", " + b + ", " + c + ")",
                    x.scale(p, a, b, c), plain.scale(p, a, b, c));
                break;
        }
    }

    private void callQuestion(int method) {
        int s = student();
        int p = paperNumber();
        int a;
        int b;
        switch (method) {
            case 12:
                a = number(0, 7);
                due("paper(" + p + ", " + a + ")", x.paper(p, a), plain.paper(p, a));
                break;
            case 13:
            case 14:
                a = number(0, 7);
                due("attempt(" + s + ", " + p + ", " + a + ")", x.attempt(s, p, a), plain.attempt(s, p, a));
                break;
            case 15:
                a = number(0, x.account(3) - 1);
                b = number(0, 2);
                due("entered(" + a + ", " + b + ")", x.entered(a, b), plain.entered(a, b));
                break;
            case 16:
                a = number(0, 2);
                b = number(0, 6);
                due("scaling(" + p + ", " + a + ", " + b + ")", x.scaling(p, a, b), plain.scaling(p, a, b));
                break;
            case 17:
                a = number(0, 2);
                b = number(0, 100);
                due("scaled(" + p + ", " + a + ", " + b + ")", x.scaled(p, a, b), plain.scaled(p, a, b));
                break;
            case 18:
                a = number(0, x.account(0) - 1);
                b = number(0, 4);
                due("module(" + s + ", " + a + ", " + b + ")", x.module(s, a, b), plain.module(s, a, b));
                break;
            case 19:
                a = number(0, 8);
                due("student(" + s + ", " + a + ")", x.student(s, a), plain.student(s, a));
                break;
            case 20:
                due("again(" + s + ")", x.again(s), plain.again(s));
                break;
            default:
                a = number(0, 1);
                due("why(" + s + ", " + a + ")", x.why(s, a), plain.why(s, a));
                break;
        }
    }

    private void callRest(int method) {
        int s = student();
        int p = paperNumber();
        int a;
        int b;
        switch (method) {
            case 22:
                a = number(0, x.account(2) - 1);
                due("ranked(" + a + ")", x.ranked(a), plain.ranked(a));
                break;
            case 23:
                a = number(0, 5);
                b = number(0, 2);
                due("ofClass(" + a + ", " + b + ")", x.ofClass(a, b), plain.ofClass(a, b));
                break;
            case 24:
                a = number(0, 100);
                due("classIf(" + s + ", " + p + ", " + a + ")", x.classIf(s, p, a), plain.classIf(s, p, a));
                break;
            case 25:
                due("needed(" + s + ", " + p + ")", x.needed(s, p), plain.needed(s, p));
                break;
            case 26:
                a = number(0, 4);
                b = setting(a);
                due("changedIf(" + a + ", " + b + ")", x.changedIf(a, b), plain.changedIf(a, b));
                break;
            case 27:
                a = number(0, 2);
                due("refusal(" + a + ")", x.refusal(a), plain.refusal(a));
                break;
            case 28:
                writeAndCompare(s);
                break;
            case 29:
                a = number(0, 15);
                due("account(" + a + ")", x.account(a), plain.account(a));
                break;
            case 30:
                due("undo()", x.undo(), plain.undo());
                break;
            default:
                if (random.nextInt(3) == 0) {
                    due("save()", x.save(), plain.save());
                } else if (random.nextInt(4) == 0) {
                    due("restore()", x.restore(), plain.restore());
                } else {
                    a = number(32, 126);
                    due("append(" + a + ")", x.append(a), plain.append(a));
                }
                break;
        }
    }

    private void writeAndCompare(int student) {
        int length = x.write(student);
        due("write(" + student + ")", length, plain.write(student));
        for (int i = 0; i <= length && calls < CALLS; i++) {
            due("written(" + i + ")", x.written(i), plain.written(i));
        }
    }
}
