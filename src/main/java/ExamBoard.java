/**
 * A board that examines students: it holds modules, papers, attempts and scalings, and answers marks,
 * classes, ranks, reasons and what would be.
 *
 * <p>Every row is made in the constructor and used again, so that no call makes arrays of its own.
 */
public final class ExamBoard {
    public static final int NONE = -1;
    public static final int BAD = -2;
    public static final int FULL = -3;
    public static final int REFUSED = -4;
    public static final int NOTHING = -5;

    private static final int MODULES = 4;
    private static final int PAPERS = 8;
    private static final int STUDENTS = 20;
    private static final int COHORTS = 3;
    private static final int UNDOABLE = 8;
    private static final int SLOTS = UNDOABLE + 1;
    private static final int TEXT_LENGTH = 80;
    /** No entry is shorter than four characters, so a text never holds more than this. */
    private static final int ENTRIES = TEXT_LENGTH / 4;

    private static final int PASS_MARK = 0;
    private static final int LOW_MARK = 1;
    private static final int COMPENSATIONS = 2;
    private static final int BORDER = 3;
    private static final int CAP = 4;
    private static final int SETTINGS = 5;
    private static final int[] LEAST_SETTING = {30, 0, 0, 0, 0};
    private static final int[] GREATEST_SETTING = {60, 60, 8, 5, 100};

    private static final int RULES = 4;
    private static final int[] LEAST_V = {0, -30, 50, 0};
    private static final int[] GREATEST_V = {0, 30, 150, 100};

    private static final int INCOMPLETE_CLASS = 0;
    private static final int WORST_PASSED_CLASS = 4;
    private static final int FAILED_CLASS = 5;
    private static final int CLASSES = 6;
    /** The limits of the classes 1 to 4, each at the index of its class. */
    private static final int[] LIMITS = {0, 70, 60, 50, 0};

    /** What stands for a mark, a resit, a number or a fault where there is none. */
    private static final int MISSING = -1;

    /** The kinds of first attempts; where there is none, the kind is 0. */
    private static final int RAW_MARK = 1;
    private static final int ABSENT = 2;
    private static final int EXCUSED = 3;

    private static final int PASSED = 1;
    private static final int COMPENSATED = 2;
    private static final int FAILED = 3;

    private static final int BY_INCOMPLETE = 1;
    private static final int BY_FAILED = 2;
    private static final int BY_BORDER = 3;
    private static final int BY_AVERAGE = 4;

    private final Board board = new Board();
    private final Board snapshot = new Board();
    private boolean saved = false;
    private final History history = new History();
    private final Standing standing = new Standing();
    private final Ranks ranks = new Ranks();
    private final EntryText text = new EntryText();
    private final StringBuilder recordText = new StringBuilder();
    private int refusalReason = 0;
    private int refusalEntry = 0;
    private int refusalAbout = 0;

    public ExamBoard() {
    }

    // ---- settings, modules, papers, students

    public int set(int what, int v) {
        if (!isSetting(what, v)) {
            return BAD;
        }
        int previous = board.settings[what];
        history.keep(board);
        board.settings[what] = v;
        return previous;
    }

    public int addModule(int credits) {
        if (!isWithin(credits, 1, 9)) {
            return BAD;
        }
        if (board.modules >= MODULES) {
            return FULL;
        }
        history.keep(board);
        board.credits[board.modules] = credits;
        board.modules++;
        return board.modules - 1;
    }

    public int addPaper(int module, int weight, int full) {
        if (!board.hasModule(module)) {
            return NONE;
        }
        if (!isWithin(weight, 1, 9) || !isWithin(full, 10, 200)) {
            return BAD;
        }
        if (board.papers >= PAPERS) {
            return FULL;
        }
        history.keep(board);
        int number = board.papers;
        board.moduleOf[number] = module;
        board.weights[number] = weight;
        board.fulls[number] = full;
        board.papers++;
        return number;
    }

    public int addStudent(int cohort) {
        if (!isCohort(cohort)) {
            return BAD;
        }
        if (board.students >= STUDENTS) {
            return FULL;
        }
        history.keep(board);
        board.cohorts[board.students] = cohort;
        board.students++;
        return board.students - 1;
    }

    public int paper(int paper, int what) {
        if (!board.hasPaper(paper)) {
            return NONE;
        }
        switch (what) {
            case 0:
                return board.moduleOf[paper];
            case 1:
                return board.weights[paper];
            case 2:
                return board.fulls[paper];
            case 3:
                return board.firstsIn(paper);
            case 4:
                return board.resitsIn(paper);
            case 5:
                return studentsWith(paper, PASSED);
            case 6:
                return studentsWith(paper, COMPENSATED);
            case 7:
                return studentsWith(paper, FAILED);
            default:
                return BAD;
        }
    }

    private int studentsWith(int paper, int verdict) {
        int count = 0;
        for (int student = 0; student < board.students; student++) {
            standing.assess(board, student);
            if (standing.verdicts[paper] == verdict) {
                count++;
            }
        }
        return count;
    }

    // ---- attempts

    public int mark(int student, int paper, int raw) {
        if (raw < 0) {
            return BAD;
        }
        if (isRefused('m', student, paper, raw, NOTHING)) {
            return REFUSED;
        }
        history.keep(board);
        board.enter('m', student, paper, raw);
        return board.percent(paper, raw);
    }

    public int absent(int student, int paper, int excuse) {
        if (!isWithin(excuse, 0, 1)) {
            return BAD;
        }
        char kind = excuse == 1 ? 'e' : 'a';
        if (isRefused(kind, student, paper, 0, NOTHING)) {
            return REFUSED;
        }
        history.keep(board);
        board.enter(kind, student, paper, 0);
        return board.firstsOf(student);
    }

    public int resit(int student, int paper, int raw) {
        if (raw < 0) {
            return BAD;
        }
        if (isRefused('r', student, paper, raw, NOTHING)) {
            return REFUSED;
        }
        history.keep(board);
        board.enter('r', student, paper, raw);
        return board.resitWorth(student, paper);
    }

    public int remove(int student, int paper) {
        if (isRefused('x', student, paper, 0, NOTHING)) {
            return REFUSED;
        }
        int attempts = board.hasResit(student, paper) ? 2 : 1;
        history.keep(board);
        board.enter('x', student, paper, 0);
        return attempts;
    }

    /** Tells whether an entry is refused, and keeps the reason if it is. */
    private boolean isRefused(char kind, int student, int paper, int raw, int entry) {
        int reason = board.reasonAgainst(kind, student, paper, raw);
        if (reason == 0) {
            return false;
        }
        refusalReason = reason;
        refusalEntry = entry;
        refusalAbout = board.aboutReason(reason, student, paper);
        return true;
    }

    public int attempt(int student, int paper, int what) {
        if (!board.hasStudent(student) || !board.hasPaper(paper)) {
            return NONE;
        }
        if (!isWithin(what, 0, 7)) {
            return BAD;
        }
        if (!board.hasFirst(student, paper)) {
            return NOTHING;
        }
        if (what == 3 || what == 4) {
            return resitNumber(student, paper, what);
        }
        return firstNumber(student, paper, what);
    }

    private int firstNumber(int student, int paper, int what) {
        int at = student * PAPERS + paper;
        switch (what) {
            case 0:
                return board.firsts[at] == RAW_MARK ? board.raws[at] : NOTHING;
            case 1:
                return board.percent(paper, board.raws[at]);
            case 2:
                return board.firstScaled(student, paper);
            case 5:
                return board.finalMark(student, paper);
            case 6:
                standing.assess(board, student);
                return standing.verdicts[paper];
            default:
                return board.firsts[at] - RAW_MARK;
        }
    }

    private int resitNumber(int student, int paper, int what) {
        if (!board.hasResit(student, paper)) {
            return NOTHING;
        }
        return what == 3 ? board.resits[student * PAPERS + paper] : board.resitWorth(student, paper);
    }

    public int entered(int i, int what) {
        if (i < 0 || i >= board.pairs) {
            return NONE;
        }
        int student = board.order[i] / PAPERS;
        int paper = board.order[i] % PAPERS;
        switch (what) {
            case 0:
                return student;
            case 1:
                return paper;
            case 2:
                return board.finalMark(student, paper);
            default:
                return BAD;
        }
    }

    // ---- scaling

    public int scale(int paper, int cohort, int rule, int v) {
        if (!board.hasPaper(paper) || !isCohort(cohort)) {
            return NONE;
        }
        if (!isWithin(rule, 0, RULES - 1) || !isWithin(v, LEAST_V[rule], GREATEST_V[rule])) {
            return BAD;
        }
        int at = paper * COHORTS + cohort;
        int previous = board.rules[at];
        history.keep(board);
        board.rules[at] = rule;
        board.ruleValues[at] = v;
        return previous;
    }

    public int scaling(int paper, int cohort, int what) {
        if (!board.hasPaper(paper) || !isCohort(cohort)) {
            return NONE;
        }
        int at = paper * COHORTS + cohort;
        switch (what) {
            case 0:
                return board.rules[at];
            case 1:
                return board.ruleValues[at];
            case 2:
                return board.rawCounts[at];
            case 3:
                return nearest(board.percentSums[at], board.rawCounts[at], NOTHING);
            case 4:
                return nearest(board.scaledSum(paper, cohort), board.rawCounts[at], NOTHING);
            case 5:
                return board.turnedPairs(paper, cohort);
            case 6:
                return board.differentScaled(paper, cohort);
            default:
                return BAD;
        }
    }

    public int scaled(int paper, int cohort, int percent) {
        if (!board.hasPaper(paper) || !isCohort(cohort)) {
            return NONE;
        }
        if (!isWithin(percent, 0, 100)) {
            return BAD;
        }
        return board.rescaled(paper * COHORTS + cohort, percent);
    }

    // ---- results

    public int module(int student, int module, int what) {
        if (!board.hasStudent(student) || !board.hasModule(module)) {
            return NONE;
        }
        standing.assess(board, student);
        switch (what) {
            case 0:
                return standing.isWhole(module) ? standing.moduleMarks[module] : NOTHING;
            case 1:
                return standing.passes(board, module) ? 1 : 0;
            case 2:
                return standing.papersMarked(board, module);
            case 3:
                return standing.papersWith(board, module, COMPENSATED);
            case 4:
                return board.papersOf(module);
            default:
                return BAD;
        }
    }

    public int student(int student, int what) {
        if (!board.hasStudent(student)) {
            return NONE;
        }
        standing.assess(board, student);
        switch (what) {
            case 0:
                return board.cohorts[student];
            case 1:
                return standing.complete ? standing.average : NOTHING;
            case 2:
                return standing.grade;
            case 3:
                return standing.passedCredits;
            case 4:
                return standing.verdictCount(board, COMPENSATED);
            case 5:
                return standing.verdictCount(board, FAILED);
            case 6:
                ranks.assess(board, standing);
                return ranks.placeOf(student);
            case 7:
                return board.firstsOf(student);
            case 8:
                return board.resitsOf(student);
            default:
                return BAD;
        }
    }

    public int again(int student) {
        if (!board.hasStudent(student)) {
            return NONE;
        }
        standing.assess(board, student);
        return standing.gradeBySums(board);
    }

    public int why(int student, int what) {
        if (!board.hasStudent(student)) {
            return NONE;
        }
        if (!isWithin(what, 0, 1)) {
            return BAD;
        }
        standing.assess(board, student);
        int reason = standing.reason();
        if (what == 0) {
            return reason;
        }
        if (reason == BY_INCOMPLETE) {
            return standing.firstIncomplete(board);
        }
        if (reason == BY_FAILED) {
            return standing.firstFailed(board);
        }
        return standing.average - 100 * LIMITS[standing.grade];
    }

    public int ranked(int place) {
        if (place < 0 || place >= board.students) {
            return NONE;
        }
        ranks.assess(board, standing);
        return ranks.studentAt(place);
    }

    public int ofClass(int grade, int what) {
        if (!isWithin(grade, 0, CLASSES - 1)) {
            return NONE;
        }
        if (!isWithin(what, 0, 2)) {
            return BAD;
        }
        ranks.assess(board, standing);
        if (what == 0) {
            return ranks.countOf(grade);
        }
        if (what == 1) {
            return ranks.liftedTo(grade);
        }
        return grade == INCOMPLETE_CLASS ? NOTHING : ranks.meanAverage(grade);
    }

    // ---- what would be

    public int classIf(int student, int paper, int mark) {
        if (!board.hasStudent(student) || !board.hasPaper(paper)) {
            return NONE;
        }
        if (!isWithin(mark, 0, 100)) {
            return BAD;
        }
        standing.assess(board, student);
        standing.assume(board, paper, mark);
        return standing.grade;
    }

    public int needed(int student, int paper) {
        if (!board.hasStudent(student) || !board.hasPaper(paper)) {
            return NONE;
        }
        standing.assess(board, student);
        int present = rankOfClass(standing.grade);
        // A greater mark can use up a compensation that another paper needs, so every mark is tried.
        for (int mark = 0; mark <= 100; mark++) {
            standing.assume(board, paper, mark);
            boolean passed = isWithin(standing.grade, 1, WORST_PASSED_CLASS);
            if (passed && standing.grade < present) {
                return mark;
            }
        }
        return NOTHING;
    }

    public int changedIf(int what, int v) {
        if (!isSetting(what, v)) {
            return BAD;
        }
        ranks.assess(board, standing);
        int present = board.settings[what];
        board.settings[what] = v;
        int changed = 0;
        for (int student = 0; student < board.students; student++) {
            standing.assess(board, student);
            if (standing.grade != ranks.grades[student]) {
                changed++;
            }
        }
        board.settings[what] = present;
        return changed;
    }

    // ---- texts, reasons, accounts

    public int append(int code) {
        if (!isWithin(code, 32, 126)) {
            return BAD;
        }
        if (text.signs.length() >= TEXT_LENGTH) {
            return FULL;
        }
        text.signs.append((char) code);
        return text.signs.length();
    }

    public int read() {
        int fault = text.parse();
        text.signs.setLength(0);
        if (fault != MISSING) {
            return -1000 - fault;
        }
        history.prepare(board);
        for (int entry = 0; entry < text.count; entry++) {
            char kind = text.kinds[entry];
            int student = text.students[entry];
            int paper = text.papers[entry];
            int raw = text.marks[entry];
            if (isRefused(kind, student, paper, raw, entry)) {
                history.takeBack(board);
                return REFUSED;
            }
            board.enter(kind, student, paper, raw);
        }
        history.confirm();
        return text.count;
    }

    public int refusal(int what) {
        if (!isWithin(what, 0, 2)) {
            return BAD;
        }
        if (refusalReason == 0) {
            return NOTHING;
        }
        if (what == 0) {
            return refusalReason;
        }
        return what == 1 ? refusalEntry : refusalAbout;
    }

    public int write(int student) {
        if (!board.hasStudent(student)) {
            return NONE;
        }
        standing.assess(board, student);
        recordText.setLength(0);
        for (int paper = 0; paper < board.papers; paper++) {
            if (board.hasFirst(student, paper)) {
                writePaper(student, paper);
            }
        }
        return recordText.length();
    }

    private void writePaper(int student, int paper) {
        if (recordText.length() > 0) {
            recordText.append(';');
        }
        recordText.append(paper);
        recordText.append(':');
        recordText.append(standing.marks[paper]);
        if (standing.marks[paper] > board.firstScaled(student, paper)) {
            recordText.append('r');
        }
        if (standing.verdicts[paper] == COMPENSATED) {
            recordText.append('c');
        }
        if (standing.verdicts[paper] == FAILED) {
            recordText.append('f');
        }
    }

    public int written(int index) {
        if (index < 0 || index >= recordText.length()) {
            return NONE;
        }
        return recordText.charAt(index);
    }

    public int account(int what) {
        if (isWithin(what, 11, 10 + SETTINGS)) {
            return board.settings[what - 11];
        }
        switch (what) {
            case 0:
                return board.modules;
            case 1:
                return board.papers;
            case 2:
                return board.students;
            case 3:
                return board.pairs;
            case 4:
                return board.resitCount();
            case 5:
                return board.absenceCount();
            case 6:
                return board.markSum();
            case 7:
                return board.countingCredits();
            case 8:
                return allPassedCredits();
            case 9:
                return text.signs.length();
            case 10:
                return history.count;
            default:
                return BAD;
        }
    }

    private int allPassedCredits() {
        int sum = 0;
        for (int student = 0; student < board.students; student++) {
            standing.assess(board, student);
            sum += standing.passedCredits;
        }
        return sum;
    }

    // ---- undo and snapshot

    public int undo() {
        if (history.count == 0) {
            return NOTHING;
        }
        history.stepBack(board);
        return history.count;
    }

    public int save() {
        snapshot.copyFrom(board);
        saved = true;
        return board.students;
    }

    public int restore() {
        if (!saved) {
            return NOTHING;
        }
        board.copyFrom(snapshot);
        history.count = 0;
        return board.students;
    }

    // ---- what all of it uses

    private static boolean isWithin(int number, int least, int greatest) {
        return number >= least && number <= greatest;
    }

    private static boolean isCohort(int cohort) {
        return isWithin(cohort, 0, COHORTS - 1);
    }

    private static boolean isSetting(int what, int v) {
        return isWithin(what, 0, SETTINGS - 1) && isWithin(v, LEAST_SETTING[what], GREATEST_SETTING[what]);
    }

    /** The quotient rounded to the nearest integer, of a dividend from 0; without a divisor, what is said. */
    private static int nearest(int dividend, int divisor, int without) {
        if (divisor <= 0) {
            return without;
        }
        return (2 * dividend + divisor) / (2 * divisor);
    }

    /** The class as it counts for ranks and for being better: 0 stands behind all others. */
    private static int rankOfClass(int grade) {
        return grade == INCOMPLETE_CLASS ? CLASSES : grade;
    }

    /** All that changes can change; pairs of a student and a paper stand at student * PAPERS + paper. */
    private static final class Board {
        int modules = 0;
        int papers = 0;
        int students = 0;
        int pairs = 0;
        final int[] settings = {40, 30, 2, 2, 40};
        final int[] credits = new int[MODULES];
        final int[] moduleOf = new int[PAPERS];
        final int[] weights = new int[PAPERS];
        final int[] fulls = new int[PAPERS];
        final int[] cohorts = new int[STUDENTS];
        final int[] firsts = new int[STUDENTS * PAPERS];
        /** The raw marks of the first attempts, 0 for absences, so that their percent is 0 too. */
        final int[] raws = new int[STUDENTS * PAPERS];
        final int[] resits = new int[STUDENTS * PAPERS];
        /** The pairs with a first attempt, in the order in which they were entered. */
        final int[] order = new int[STUDENTS * PAPERS];
        final int[] rules = new int[PAPERS * COHORTS];
        final int[] ruleValues = new int[PAPERS * COHORTS];
        /** Kept with each entry, so that a shift needs no walk over the students. */
        final int[] percentSums = new int[PAPERS * COHORTS];
        final int[] rawCounts = new int[PAPERS * COHORTS];

        Board() {
            for (int at = 0; at < resits.length; at++) {
                resits[at] = MISSING;
            }
        }

        void copyFrom(Board other) {
            modules = other.modules;
            papers = other.papers;
            students = other.students;
            pairs = other.pairs;
            copyRow(other.settings, settings);
            copyRow(other.credits, credits);
            copyRow(other.moduleOf, moduleOf);
            copyRow(other.weights, weights);
            copyRow(other.fulls, fulls);
            copyRow(other.cohorts, cohorts);
            copyRow(other.firsts, firsts);
            copyRow(other.raws, raws);
            copyRow(other.resits, resits);
            copyRow(other.order, order);
            copyRow(other.rules, rules);
            copyRow(other.ruleValues, ruleValues);
            copyRow(other.percentSums, percentSums);
            copyRow(other.rawCounts, rawCounts);
        }

        private static void copyRow(int[] from, int[] to) {
            System.arraycopy(from, 0, to, 0, Math.min(from.length, to.length));
        }

        boolean hasModule(int module) {
            return module >= 0 && module < modules;
        }

        boolean hasPaper(int paper) {
            return paper >= 0 && paper < papers;
        }

        boolean hasStudent(int student) {
            return student >= 0 && student < students;
        }

        boolean hasFirst(int student, int paper) {
            return firsts[student * PAPERS + paper] != 0;
        }

        boolean hasResit(int student, int paper) {
            return resits[student * PAPERS + paper] != MISSING;
        }

        // ---- marks

        int percent(int paper, int raw) {
            return nearest(100 * raw, fulls[paper], 0);
        }

        /** What a percent becomes by the rule at an index of the rules. */
        int rescaled(int at, int percent) {
            int v = ruleValues[at];
            int result = percent;
            switch (rules[at]) {
                case 1:
                    result = percent + v;
                    break;
                case 2:
                    result = 50 + Math.floorDiv((percent - 50) * v, 100);
                    break;
                case 3:
                    // Without marks the mean is taken as v, which makes the shift 0.
                    result = percent + v - nearest(percentSums[at], rawCounts[at], v);
                    break;
                default:
                    break;
            }
            return Math.max(0, Math.min(100, result));
        }

        /** The scaled mark of a first attempt that is there. */
        int firstScaled(int student, int paper) {
            int at = student * PAPERS + paper;
            if (firsts[at] != RAW_MARK) {
                return 0;
            }
            return rescaled(paper * COHORTS + cohorts[student], percent(paper, raws[at]));
        }

        /** What a resit that is there counts for. */
        int resitWorth(int student, int paper) {
            int at = student * PAPERS + paper;
            int percent = percent(paper, resits[at]);
            return firsts[at] == EXCUSED ? percent : Math.min(percent, settings[CAP]);
        }

        int finalMark(int student, int paper) {
            if (!hasFirst(student, paper)) {
                return MISSING;
            }
            int scaled = firstScaled(student, paper);
            return hasResit(student, paper) ? Math.max(scaled, resitWorth(student, paper)) : scaled;
        }

        // ---- entries, of the kinds of the text: m, r, e, a, x

        /** The first reason against an entry, 0 without one. */
        int reasonAgainst(char kind, int student, int paper, int raw) {
            if (!hasStudent(student)) {
                return 1;
            }
            if (!hasPaper(paper)) {
                return 2;
            }
            if (raw > fulls[paper]) {
                return 3;
            }
            boolean needsFirst = kind == 'r' || kind == 'x';
            if (hasFirst(student, paper) != needsFirst) {
                return needsFirst ? 5 : 4;
            }
            if (kind != 'r') {
                return 0;
            }
            if (hasResit(student, paper)) {
                return 6;
            }
            return firstScaled(student, paper) >= settings[PASS_MARK] ? 7 : 0;
        }

        /** The number that a reason, given for this student and paper, is about. */
        int aboutReason(int reason, int student, int paper) {
            switch (reason) {
                case 1:
                    return student;
                case 3:
                    return fulls[paper];
                case 7:
                    return firstScaled(student, paper);
                default:
                    return paper;
            }
        }

        /** Carries out an entry against which there is no reason. */
        void enter(char kind, int student, int paper, int raw) {
            switch (kind) {
                case 'm':
                    putFirst(student, paper, RAW_MARK, raw);
                    countRaw(student, paper, 1);
                    break;
                case 'e':
                    putFirst(student, paper, EXCUSED, 0);
                    break;
                case 'a':
                    putFirst(student, paper, ABSENT, 0);
                    break;
                case 'r':
                    resits[student * PAPERS + paper] = raw;
                    break;
                default:
                    takeAttempts(student, paper);
                    break;
            }
        }

        private void putFirst(int student, int paper, int kind, int raw) {
            int at = student * PAPERS + paper;
            firsts[at] = kind;
            raws[at] = raw;
            if (pairs < order.length) {
                order[pairs] = at;
                pairs++;
            }
        }

        private void takeAttempts(int student, int paper) {
            int at = student * PAPERS + paper;
            if (firsts[at] == RAW_MARK) {
                countRaw(student, paper, -1);
            }
            firsts[at] = 0;
            raws[at] = 0;
            resits[at] = MISSING;
            int left = 0;
            for (int i = 0; i < pairs; i++) {
                if (order[i] != at) {
                    order[left] = order[i];
                    left++;
                }
            }
            pairs = left;
        }

        private void countRaw(int student, int paper, int sign) {
            int at = paper * COHORTS + cohorts[student];
            percentSums[at] += sign * percent(paper, raws[student * PAPERS + paper]);
            rawCounts[at] += sign;
        }

        // ---- the raw marks of a cohort in a paper

        private boolean hasRaw(int student, int paper, int cohort) {
            return cohorts[student] == cohort && firsts[student * PAPERS + paper] == RAW_MARK;
        }

        int scaledSum(int paper, int cohort) {
            int sum = 0;
            for (int student = 0; student < students; student++) {
                if (hasRaw(student, paper, cohort)) {
                    sum += firstScaled(student, paper);
                }
            }
            return sum;
        }

        /** The pairs of which one has the greater percent, but the lesser scaled mark. */
        int turnedPairs(int paper, int cohort) {
            int count = 0;
            for (int one = 0; one < students; one++) {
                for (int other = 0; other < students; other++) {
                    if (hasRaw(one, paper, cohort) && hasRaw(other, paper, cohort) && isTurned(one, other, paper)) {
                        count++;
                    }
                }
            }
            return count;
        }

        private boolean isTurned(int one, int other, int paper) {
            int onePercent = percent(paper, raws[one * PAPERS + paper]);
            int otherPercent = percent(paper, raws[other * PAPERS + paper]);
            return onePercent > otherPercent && firstScaled(one, paper) < firstScaled(other, paper);
        }

        int differentScaled(int paper, int cohort) {
            int count = 0;
            for (int student = 0; student < students; student++) {
                if (hasRaw(student, paper, cohort) && isFirstOfItsScaled(student, paper, cohort)) {
                    count++;
                }
            }
            return count;
        }

        private boolean isFirstOfItsScaled(int student, int paper, int cohort) {
            int scaled = firstScaled(student, paper);
            for (int other = 0; other < student; other++) {
                if (hasRaw(other, paper, cohort) && firstScaled(other, paper) == scaled) {
                    return false;
                }
            }
            return true;
        }

        // ---- counts

        int firstsIn(int paper) {
            int count = 0;
            for (int student = 0; student < students; student++) {
                if (hasFirst(student, paper)) {
                    count++;
                }
            }
            return count;
        }

        int resitsIn(int paper) {
            int count = 0;
            for (int student = 0; student < students; student++) {
                if (hasResit(student, paper)) {
                    count++;
                }
            }
            return count;
        }

        int firstsOf(int student) {
            int count = 0;
            for (int paper = 0; paper < papers; paper++) {
                if (hasFirst(student, paper)) {
                    count++;
                }
            }
            return count;
        }

        int resitsOf(int student) {
            int count = 0;
            for (int paper = 0; paper < papers; paper++) {
                if (hasResit(student, paper)) {
                    count++;
                }
            }
            return count;
        }

        int papersOf(int module) {
            int count = 0;
            for (int paper = 0; paper < papers; paper++) {
                if (moduleOf[paper] == module) {
                    count++;
                }
            }
            return count;
        }

        int resitCount() {
            int count = 0;
            for (int paper = 0; paper < papers; paper++) {
                count += resitsIn(paper);
            }
            return count;
        }

        int absenceCount() {
            int count = 0;
            for (int i = 0; i < pairs; i++) {
                if (firsts[order[i]] != RAW_MARK) {
                    count++;
                }
            }
            return count;
        }

        int markSum() {
            int sum = 0;
            for (int i = 0; i < pairs; i++) {
                sum += finalMark(order[i] / PAPERS, order[i] % PAPERS);
            }
            return sum;
        }

        int countingCredits() {
            int sum = 0;
            for (int module = 0; module < modules; module++) {
                if (papersOf(module) > 0) {
                    sum += credits[module];
                }
            }
            return sum;
        }
    }

    /** The results of one student, worked out anew by each call of assess. */
    private static final class Standing {
        final int[] marks = new int[PAPERS];
        final int[] verdicts = new int[PAPERS];
        final int[] moduleMarks = new int[MODULES];
        final boolean[] counting = new boolean[MODULES];
        int credits = 0;
        /** The sum of the marks in the modules, each one times the credits. */
        int points = 0;
        int passedCredits = 0;
        boolean complete = false;
        boolean allPassed = false;
        int average = 0;
        int grade = 0;
        /** Whether the border is the reason of the class. */
        boolean lifted = false;

        void assess(Board board, int student) {
            for (int paper = 0; paper < board.papers; paper++) {
                marks[paper] = board.finalMark(student, paper);
            }
            judge(board);
        }

        /** Works the results out anew with another mark in a paper. */
        void assume(Board board, int paper, int mark) {
            marks[paper] = mark;
            judge(board);
        }

        private void judge(Board board) {
            for (int module = 0; module < board.modules; module++) {
                weigh(board, module);
            }
            decidePapers(board);
            sumUp(board);
            classify(board);
        }

        private void weigh(Board board, int module) {
            int sum = 0;
            int weights = 0;
            boolean whole = true;
            for (int paper = 0; paper < board.papers; paper++) {
                if (board.moduleOf[paper] == module) {
                    weights += board.weights[paper];
                    sum += board.weights[paper] * marks[paper];
                    whole = whole && marks[paper] != MISSING;
                }
            }
            counting[module] = weights > 0;
            moduleMarks[module] = whole ? nearest(sum, weights, MISSING) : MISSING;
        }

        private void decidePapers(Board board) {
            int left = board.settings[COMPENSATIONS];
            for (int paper = 0; paper < board.papers; paper++) {
                if (marks[paper] == MISSING) {
                    verdicts[paper] = 0;
                } else if (marks[paper] >= board.settings[PASS_MARK]) {
                    verdicts[paper] = PASSED;
                } else if (left > 0 && isCompensable(board, paper)) {
                    verdicts[paper] = COMPENSATED;
                    left--;
                } else {
                    verdicts[paper] = FAILED;
                }
            }
        }

        private boolean isCompensable(Board board, int paper) {
            // The mark of a module that is not complete is MISSING, which is below every pass mark.
            return marks[paper] >= board.settings[LOW_MARK]
                && moduleMarks[board.moduleOf[paper]] >= board.settings[PASS_MARK];
        }

        private void sumUp(Board board) {
            credits = 0;
            points = 0;
            passedCredits = 0;
            complete = true;
            allPassed = true;
            for (int module = 0; module < board.modules; module++) {
                if (!counting[module]) {
                    continue;
                }
                credits += board.credits[module];
                if (isWhole(module)) {
                    points += moduleMarks[module] * board.credits[module];
                } else {
                    complete = false;
                }
                if (passes(board, module)) {
                    passedCredits += board.credits[module];
                } else {
                    allPassed = false;
                }
            }
            complete = complete && credits > 0;
        }

        private void classify(Board board) {
            lifted = false;
            average = complete && credits > 0 ? 100 * points / credits : 0;
            if (!complete) {
                grade = INCOMPLETE_CLASS;
                return;
            }
            if (!allPassed) {
                grade = FAILED_CLASS;
                return;
            }
            grade = gradeOfAverage();
            if (grade > 1 && isAtBorder(board, LIMITS[grade - 1])) {
                grade--;
                lifted = true;
            }
        }

        private int gradeOfAverage() {
            for (int better = 1; better < WORST_PASSED_CLASS; better++) {
                if (average >= 100 * LIMITS[better]) {
                    return better;
                }
            }
            return WORST_PASSED_CLASS;
        }

        private boolean isAtBorder(Board board, int limit) {
            return 100 * limit - average <= 100 * board.settings[BORDER] && hasHalfFrom(board, limit);
        }

        /** Whether the modules with marks of at least a limit have at least half of the credits. */
        private boolean hasHalfFrom(Board board, int limit) {
            int sum = 0;
            for (int module = 0; module < board.modules; module++) {
                if (counting[module] && moduleMarks[module] >= limit) {
                    sum += board.credits[module];
                }
            }
            return 2 * sum >= credits;
        }

        /** The class by comparing sums of marks times credits, without the average. */
        int gradeBySums(Board board) {
            if (!complete) {
                return INCOMPLETE_CLASS;
            }
            if (!allPassed) {
                return FAILED_CLASS;
            }
            int found = 1;
            while (found < WORST_PASSED_CLASS && points < LIMITS[found] * credits) {
                found++;
            }
            if (found == 1) {
                return found;
            }
            int limit = LIMITS[found - 1];
            boolean near = points >= (limit - board.settings[BORDER]) * credits;
            return near && hasHalfFrom(board, limit) ? found - 1 : found;
        }

        boolean isWhole(int module) {
            return moduleMarks[module] != MISSING;
        }

        boolean passes(Board board, int module) {
            return isWhole(module) && papersWith(board, module, FAILED) == 0;
        }

        int papersWith(Board board, int module, int verdict) {
            int count = 0;
            for (int paper = 0; paper < board.papers; paper++) {
                if (board.moduleOf[paper] == module && verdicts[paper] == verdict) {
                    count++;
                }
            }
            return count;
        }

        int papersMarked(Board board, int module) {
            return board.papersOf(module) - papersWith(board, module, 0);
        }

        int verdictCount(Board board, int verdict) {
            int count = 0;
            for (int paper = 0; paper < board.papers; paper++) {
                if (verdicts[paper] == verdict) {
                    count++;
                }
            }
            return count;
        }

        int reason() {
            if (!complete) {
                return BY_INCOMPLETE;
            }
            if (!allPassed) {
                return BY_FAILED;
            }
            return lifted ? BY_BORDER : BY_AVERAGE;
        }

        int firstIncomplete(Board board) {
            for (int module = 0; module < board.modules; module++) {
                if (counting[module] && !isWhole(module)) {
                    return module;
                }
            }
            return NOTHING;
        }

        int firstFailed(Board board) {
            for (int paper = 0; paper < board.papers; paper++) {
                if (verdicts[paper] == FAILED) {
                    return paper;
                }
            }
            return NOTHING;
        }
    }

    /** The classes and averages of all students, worked out anew by each call of assess. */
    private static final class Ranks {
        final int[] grades = new int[STUDENTS];
        private final int[] averages = new int[STUDENTS];
        private final boolean[] lifted = new boolean[STUDENTS];
        private int count = 0;

        /** The standing is only worked with: it is left as that of the last student. */
        void assess(Board board, Standing standing) {
            count = Math.min(board.students, STUDENTS);
            for (int student = 0; student < count; student++) {
                standing.assess(board, student);
                grades[student] = standing.grade;
                averages[student] = standing.average;
                lifted[student] = standing.lifted;
            }
        }

        int placeOf(int student) {
            int place = 0;
            for (int other = 0; other < count; other++) {
                if (standsBefore(other, student)) {
                    place++;
                }
            }
            return place;
        }

        int studentAt(int place) {
            for (int student = 0; student < count; student++) {
                if (placeOf(student) == place) {
                    return student;
                }
            }
            return NONE;
        }

        private boolean standsBefore(int one, int other) {
            if (grades[one] != grades[other]) {
                return rankOfClass(grades[one]) < rankOfClass(grades[other]);
            }
            if (averages[one] != averages[other]) {
                return averages[one] > averages[other];
            }
            return one < other;
        }

        int countOf(int grade) {
            int found = 0;
            for (int student = 0; student < count; student++) {
                if (grades[student] == grade) {
                    found++;
                }
            }
            return found;
        }

        int liftedTo(int grade) {
            int found = 0;
            for (int student = 0; student < count; student++) {
                if (grades[student] == grade && lifted[student]) {
                    found++;
                }
            }
            return found;
        }

        int meanAverage(int grade) {
            int sum = 0;
            int found = 0;
            for (int student = 0; student < count; student++) {
                if (grades[student] == grade) {
                    sum += averages[student];
                    found++;
                }
            }
            return found > 0 ? sum / found : NOTHING;
        }
    }

    /** The boards before the latest changes; one slot more than can be undone is always free. */
    private static final class History {
        private final Board[] slots = new Board[SLOTS];
        private int next = 0;
        int count = 0;

        History() {
            for (int i = 0; i < slots.length; i++) {
                slots[i] = new Board();
            }
        }

        void keep(Board board) {
            prepare(board);
            confirm();
        }

        /** Notes the board in the free slot, for a change that may still be taken back. */
        void prepare(Board board) {
            slots[next].copyFrom(board);
        }

        void confirm() {
            next = (next + 1) % SLOTS;
            count = Math.min(count + 1, UNDOABLE);
        }

        void takeBack(Board board) {
            board.copyFrom(slots[next]);
        }

        void stepBack(Board board) {
            next = (next + UNDOABLE) % SLOTS;
            count--;
            takeBack(board);
        }
    }

    /** The text of entries, and the entries that were read from it. */
    private static final class EntryText {
        final StringBuilder signs = new StringBuilder();
        final char[] kinds = new char[ENTRIES];
        final int[] students = new int[ENTRIES];
        final int[] papers = new int[ENTRIES];
        final int[] marks = new int[ENTRIES];
        int count = 0;
        private int position = 0;

        /** Reads all entries; answers the fault position, or MISSING without a fault. */
        int parse() {
            position = 0;
            count = 0;
            while (count < ENTRIES) {
                if (!takesEntry()) {
                    return position;
                }
                count++;
                if (!takes(';')) {
                    break;
                }
            }
            return position < signs.length() ? position : MISSING;
        }

        /** Takes one entry; if there is none, the position is that of the fault. */
        private boolean takesEntry() {
            if (position >= signs.length()) {
                return false;
            }
            char kind = signs.charAt(position);
            if ("mreax".indexOf(kind) < 0) {
                return false;
            }
            position++;
            kinds[count] = kind;
            students[count] = takeNumber();
            if (students[count] == MISSING || !takes('.')) {
                return false;
            }
            papers[count] = takeNumber();
            if (papers[count] == MISSING) {
                return false;
            }
            return takesMark(kind == 'm' || kind == 'r');
        }

        private boolean takesMark(boolean due) {
            marks[count] = 0;
            if (!due) {
                return true;
            }
            if (!takes('=')) {
                return false;
            }
            marks[count] = takeNumber();
            return marks[count] != MISSING;
        }

        private boolean takes(char sign) {
            if (position >= signs.length() || signs.charAt(position) != sign) {
                return false;
            }
            position++;
            return true;
        }

        /** Takes one to three digits; MISSING if there is none. */
        private int takeNumber() {
            int number = 0;
            int digits = 0;
            while (digits < 3 && position < signs.length() && isDigit(signs.charAt(position))) {
                number = 10 * number + signs.charAt(position) - '0';
                position++;
                digits++;
            }
            return digits > 0 ? number : MISSING;
        }

        private static boolean isDigit(char sign) {
            return sign >= '0' && sign <= '9';
        }
    }
}
