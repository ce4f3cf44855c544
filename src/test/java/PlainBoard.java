import java.util.ArrayList;
import java.util.Arrays;
import java.util.Comparator;
import java.util.HashMap;
import java.util.HashSet;
import java.util.List;
import java.util.Map;
import java.util.Set;
import java.util.regex.Matcher;
import java.util.regex.Pattern;

/**
 * The document read a second time, in another manner: with lists and maps, with quotients as doubles, with
 * a pattern for the texts, and with everything worked out anew from the attempts. It is slow and plain.
 */
final class PlainBoard {
    private static final int NONE = -1;
    private static final int BAD = -2;
    private static final int FULL = -3;
    private static final int REFUSED = -4;
    private static final int NOTHING = -5;
    private static final String NUMBER = "\\d{1,3}";
    private static final String PAIR = NUMBER + "\\." + NUMBER;
    private static final String ENTRY = "(?:[mr]" + PAIR + "=" + NUMBER + "|[eax]" + PAIR + ")";
    private static final Pattern ENTRIES = Pattern.compile(ENTRY + "(?:;" + ENTRY + ")*");

    /** A first attempt, and the resit behind it. */
    private record Attempt(int student, int paper, char kind, int raw, Integer resit) {
    }

    private record Paper(int module, int weight, int full) {
    }

    private record Rule(int rule, int v) {
    }

    private record Refusal(int reason, int entry, int about) {
    }

    private static final class State {
        List<Integer> settings = new ArrayList<>(List.of(40, 30, 2, 2, 40));
        List<Integer> modules = new ArrayList<>();
        List<Paper> papers = new ArrayList<>();
        List<Integer> students = new ArrayList<>();
        List<Attempt> attempts = new ArrayList<>();
        Map<List<Integer>, Rule> rules = new HashMap<>();

        State copy() {
            State copy = new State();
            copy.settings = new ArrayList<>(settings);
            copy.modules = new ArrayList<>(modules);
            copy.papers = new ArrayList<>(papers);
            copy.students = new ArrayList<>(students);
            copy.attempts = new ArrayList<>(attempts);
            copy.rules = new HashMap<>(rules);
            return copy;
        }
    }

    private State now = new State();
    private final List<State> before = new ArrayList<>();
    private State snapshot = null;
    private String text = "";
    private String record = "";
    private Refusal refused = null;

    private static int nearest(int dividend, int divisor) {
        return (int) Math.floor((double) dividend / divisor + 0.5);
    }

    private void change() {
        before.add(now.copy());
        if (before.size() > 8) {
            before.remove(0);
        }
    }

    private static boolean in(int number, int least, int greatest) {
        return least <= number && number <= greatest;
    }

    private boolean noStudent(int student) {
        return !in(student, 0, now.students.size() - 1);
    }

    private boolean noPaper(int paper) {
        return !in(paper, 0, now.papers.size() - 1);
    }

    private boolean noModule(int module) {
        return !in(module, 0, now.modules.size() - 1);
    }

    private static boolean badSetting(int what, int v) {
        switch (what) {
            case 0: return !in(v, 30, 60);
            case 1: return !in(v, 0, 60);
            case 2: return !in(v, 0, 8);
            case 3: return !in(v, 0, 5);
            case 4: return !in(v, 0, 100);
            default: return true;
        }
    }

    // ---- what follows from the attempts

    private Attempt find(int student, int paper) {
        for (Attempt attempt : now.attempts) {
            if (attempt.student == student && attempt.paper == paper) {
                return attempt;
            }
        }
        return null;
    }

    private int percent(int paper, int raw) {
        return nearest(100 * raw, now.papers.get(paper).full);
    }

    private List<Attempt> raws(int paper, int cohort) {
        List<Attempt> found = new ArrayList<>();
        for (Attempt attempt : now.attempts) {
            boolean here = attempt.paper == paper && now.students.get(attempt.student) == cohort;
            if (here && attempt.kind == 'm') {
                found.add(attempt);
            }
        }
        return found;
    }

    private int sumOfPercents(int paper, int cohort) {
        int sum = 0;
        for (Attempt attempt : raws(paper, cohort)) {
            sum += percent(paper, attempt.raw);
        }
        return sum;
    }

    private Rule rule(int paper, int cohort) {
        return now.rules.getOrDefault(List.of(paper, cohort), new Rule(0, 0));
    }

    private int rescale(int paper, int cohort, int percent) {
        Rule rule = rule(paper, cohort);
        double result = percent;
        if (rule.rule == 1) {
            result = percent + rule.v;
        } else if (rule.rule == 2) {
            result = 50 + Math.floor((percent - 50) * rule.v / 100.0);
        } else if (rule.rule == 3 && !raws(paper, cohort).isEmpty()) {
            result = percent + rule.v - nearest(sumOfPercents(paper, cohort), raws(paper, cohort).size());
        }
        return result < 0 ? 0 : result > 100 ? 100 : (int) result;
    }

    private int scaledFirst(Attempt a) {
        return a.kind == 'm' ? rescale(a.paper, now.students.get(a.student), percent(a.paper, a.raw)) : 0;
    }

    private int worth(Attempt a) {
        int percent = percent(a.paper, a.resit);
        return a.kind != 'e' && percent > now.settings.get(4) ? now.settings.get(4) : percent;
    }

    private int markOf(Attempt a) {
        return a.resit != null && worth(a) > scaledFirst(a) ? worth(a) : scaledFirst(a);
    }

    /** What follows from the marks of one student, where null is no mark. */
    private final class View {
        final Integer[] marks = new Integer[now.papers.size()];
        final Map<Integer, String> verdicts = new HashMap<>();

        View(int student) {
            for (Attempt attempt : now.attempts) {
                if (attempt.student == student) {
                    marks[attempt.paper] = markOf(attempt);
                }
            }
        }

        List<Integer> papersOf(int module) {
            List<Integer> found = new ArrayList<>();
            for (int paper = 0; paper < marks.length; paper++) {
                if (now.papers.get(paper).module == module) {
                    found.add(paper);
                }
            }
            return found;
        }

        List<Integer> counting() {
            List<Integer> found = new ArrayList<>();
            for (int module = 0; module < now.modules.size(); module++) {
                if (!papersOf(module).isEmpty()) {
                    found.add(module);
                }
            }
            return found;
        }

        Integer moduleMark(int module) {
            int sum = 0;
            int weights = 0;
            for (int paper : papersOf(module)) {
                if (marks[paper] == null) {
                    return null;
                }
                sum += marks[paper] * now.papers.get(paper).weight;
                weights += now.papers.get(paper).weight;
            }
            return weights == 0 ? null : (Integer) nearest(sum, weights);
        }

        /** 0 no mark, 1 passed, 2 compensated, 3 failed. */
        int verdict(int paper) {
            if (marks[paper] == null) {
                return 0;
            }
            if (marks[paper] >= now.settings.get(0)) {
                return 1;
            }
            if (!canBeCompensated(paper)) {
                return 3;
            }
            int earlier = 0;
            for (int other = 0; other < paper; other++) {
                if (canBeCompensated(other)) {
                    earlier++;
                }
            }
            return earlier < now.settings.get(2) ? 2 : 3;
        }

        boolean canBeCompensated(int paper) {
            Integer whole = moduleMark(now.papers.get(paper).module);
            return marks[paper] != null && marks[paper] < now.settings.get(0)
                && marks[paper] >= now.settings.get(1) && whole != null && whole >= now.settings.get(0);
        }

        int count(int verdict) {
            int found = 0;
            for (int paper = 0; paper < marks.length; paper++) {
                found += verdict(paper) == verdict ? 1 : 0;
            }
            return found;
        }

        boolean modulePassed(int module) {
            for (int paper : papersOf(module)) {
                if (verdict(paper) == 0 || verdict(paper) == 3) {
                    return false;
                }
            }
            return !papersOf(module).isEmpty();
        }

        int passedCredits() {
            int sum = 0;
            for (int module : counting()) {
                sum += modulePassed(module) ? now.modules.get(module) : 0;
            }
            return sum;
        }

        Integer average() {
            int points = 0;
            int credits = 0;
            for (int module : counting()) {
                if (moduleMark(module) == null) {
                    return null;
                }
                points += moduleMark(module) * now.modules.get(module);
                credits += now.modules.get(module);
            }
            return credits == 0 ? null : (Integer) (int) Math.floor(100.0 * points / credits);
        }

        /** The class and the reason. */
        int[] grade() {
            if (average() == null) {
                return new int[] {0, 1};
            }
            for (int module : counting()) {
                if (!modulePassed(module)) {
                    return new int[] {5, 2};
                }
            }
            int grade = average() >= 7000 ? 1 : average() >= 6000 ? 2 : average() >= 5000 ? 3 : 4;
            if (grade == 1) {
                return new int[] {1, 4};
            }
            int limit = 90 - 10 * grade;
            int good = 0;
            int all = 0;
            for (int module : counting()) {
                all += now.modules.get(module);
                good += moduleMark(module) >= limit ? now.modules.get(module) : 0;
            }
            boolean near = 100 * limit - average() <= 100 * now.settings.get(3);
            return near && good * 2 >= all ? new int[] {grade - 1, 3} : new int[] {grade, 4};
        }
    }

    private int gradeOf(int student) {
        return new View(student).grade()[0];
    }

    private List<Integer> inRanks() {
        List<Integer> order = new ArrayList<>();
        for (int student = 0; student < now.students.size(); student++) {
            order.add(student);
        }
        order.sort(Comparator
            .comparing((Integer s) -> gradeOf(s) == 0 ? 99 : gradeOf(s))
            .thenComparing(s -> new View(s).average() == null ? 0 : -new View(s).average())
            .thenComparing(s -> s));
        return order;
    }

    private static int or(Integer number) {
        return number == null ? NOTHING : number;
    }

    // ---- the promises

    int set(int what, int v) {
        if (badSetting(what, v)) {
            return BAD;
        }
        change();
        return now.settings.set(what, v);
    }

    int addModule(int credits) {
        if (!in(credits, 1, 9)) {
            return BAD;
        }
        if (now.modules.size() == 4) {
            return FULL;
        }
        change();
        now.modules.add(credits);
        return now.modules.size() - 1;
    }

    int addPaper(int module, int weight, int full) {
        if (noModule(module)) {
            return NONE;
        }
        if (!in(weight, 1, 9) || !in(full, 10, 200)) {
            return BAD;
        }
        if (now.papers.size() == 8) {
            return FULL;
        }
        change();
        now.papers.add(new Paper(module, weight, full));
        return now.papers.size() - 1;
    }

    int addStudent(int cohort) {
        if (!in(cohort, 0, 2)) {
            return BAD;
        }
        if (now.students.size() == 20) {
            return FULL;
        }
        change();
        now.students.add(cohort);
        return now.students.size() - 1;
    }

    int paper(int paper, int what) {
        if (noPaper(paper)) {
            return NONE;
        }
        int firsts = 0;
        int resits = 0;
        int[] verdicts = new int[4];
        for (Attempt attempt : now.attempts) {
            firsts += attempt.paper == paper ? 1 : 0;
            resits += attempt.paper == paper && attempt.resit != null ? 1 : 0;
        }
        for (int student = 0; student < now.students.size(); student++) {
            verdicts[new View(student).verdict(paper)]++;
        }
        Paper it = now.papers.get(paper);
        int[] numbers = {it.module, it.weight, it.full, firsts, resits, verdicts[1], verdicts[2], verdicts[3]};
        return in(what, 0, 7) ? numbers[what] : BAD;
    }

    private Refusal against(char kind, int student, int paper, int raw, int entry) {
        if (noStudent(student)) {
            return new Refusal(1, entry, student);
        }
        if (noPaper(paper)) {
            return new Refusal(2, entry, paper);
        }
        int full = now.papers.get(paper).full;
        if ("mr".indexOf(kind) >= 0 && raw > full) {
            return new Refusal(3, entry, full);
        }
        Attempt there = find(student, paper);
        if ("mae".indexOf(kind) >= 0) {
            return there != null ? new Refusal(4, entry, paper) : null;
        }
        if (there == null) {
            return new Refusal(5, entry, paper);
        }
        if (kind == 'r' && there.resit != null) {
            return new Refusal(6, entry, paper);
        }
        if (kind == 'r' && scaledFirst(there) >= now.settings.get(0)) {
            return new Refusal(7, entry, scaledFirst(there));
        }
        return null;
    }

    private void carryOut(char kind, int student, int paper, int raw) {
        Attempt there = find(student, paper);
        if (kind == 'x') {
            now.attempts.remove(there);
        } else if (kind == 'r') {
            now.attempts.set(now.attempts.indexOf(there),
                new Attempt(student, paper, there.kind, there.raw, raw));
        } else {
            now.attempts.add(new Attempt(student, paper, kind, raw, null));
        }
    }

    /** Refuses or carries out an entry by a call; tells whether it was carried out. */
    private boolean entry(char kind, int student, int paper, int raw) {
        Refusal refusal = against(kind, student, paper, raw, NOTHING);
        if (refusal != null) {
            refused = refusal;
            return false;
        }
        change();
        carryOut(kind, student, paper, raw);
        return true;
    }

    int mark(int student, int paper, int raw) {
        return raw < 0 ? BAD : entry('m', student, paper, raw) ? percent(paper, raw) : REFUSED;
    }

    int absent(int student, int paper, int excuse) {
        if (!in(excuse, 0, 1)) {
            return BAD;
        }
        return entry("ae".charAt(excuse), student, paper, 0) ? student(student, 7) : REFUSED;
    }

    int resit(int student, int paper, int raw) {
        return raw < 0 ? BAD : entry('r', student, paper, raw) ? worth(find(student, paper)) : REFUSED;
    }

    int remove(int student, int paper) {
        Attempt there = find(student, paper);
        return !entry('x', student, paper, 0) ? REFUSED : there.resit == null ? 1 : 2;
    }

    int attempt(int student, int paper, int what) {
        if (noStudent(student) || noPaper(paper)) {
            return NONE;
        }
        if (!in(what, 0, 7)) {
            return BAD;
        }
        Attempt a = find(student, paper);
        if (a == null || a.resit == null && (what == 3 || what == 4)) {
            return NOTHING;
        }
        switch (what) {
            case 0: return a.kind == 'm' ? a.raw : NOTHING;
            case 1: return a.kind == 'm' ? percent(paper, a.raw) : 0;
            case 2: return scaledFirst(a);
            case 3: return a.resit;
            case 4: return worth(a);
            case 5: return markOf(a);
            case 6: return new View(student).verdict(paper);
            default: return "mae".indexOf(a.kind);
        }
    }

    int entered(int i, int what) {
        if (!in(i, 0, now.attempts.size() - 1)) {
            return NONE;
        }
        Attempt a = now.attempts.get(i);
        return what == 0 ? a.student : what == 1 ? a.paper : what == 2 ? markOf(a) : BAD;
    }

    int scale(int paper, int cohort, int rule, int v) {
        if (noPaper(paper) || !in(cohort, 0, 2)) {
            return NONE;
        }
        boolean good = rule == 0 && v == 0 || rule == 1 && in(v, -30, 30)
            || rule == 2 && in(v, 50, 150) || rule == 3 && in(v, 0, 100);
        if (!good) {
            return BAD;
        }
        change();
        int previous = rule(paper, cohort).rule;
        now.rules.put(List.of(paper, cohort), new Rule(rule, v));
        return previous;
    }

    int scaling(int paper, int cohort, int what) {
        if (noPaper(paper) || !in(cohort, 0, 2)) {
            return NONE;
        }
        List<Attempt> raws = raws(paper, cohort);
        int sum = 0;
        int turned = 0;
        Set<Integer> different = new HashSet<>();
        for (Attempt one : raws) {
            sum += scaledFirst(one);
            different.add(scaledFirst(one));
            for (Attempt other : raws) {
                boolean above = percent(paper, one.raw) > percent(paper, other.raw);
                turned += above && scaledFirst(one) < scaledFirst(other) ? 1 : 0;
            }
        }
        switch (what) {
            case 0: return rule(paper, cohort).rule;
            case 1: return rule(paper, cohort).v;
            case 2: return raws.size();
            case 3: return raws.isEmpty() ? NOTHING : nearest(sumOfPercents(paper, cohort), raws.size());
            case 4: return raws.isEmpty() ? NOTHING : nearest(sum, raws.size());
            case 5: return turned;
            case 6: return different.size();
            default: return BAD;
        }
    }

    int scaled(int paper, int cohort, int percent) {
        if (noPaper(paper) || !in(cohort, 0, 2)) {
            return NONE;
        }
        return in(percent, 0, 100) ? rescale(paper, cohort, percent) : BAD;
    }

    int module(int student, int module, int what) {
        if (noStudent(student) || noModule(module)) {
            return NONE;
        }
        View view = new View(student);
        int marked = 0;
        int compensated = 0;
        for (int paper : view.papersOf(module)) {
            marked += view.marks[paper] != null ? 1 : 0;
            compensated += view.verdict(paper) == 2 ? 1 : 0;
        }
        int passed = view.modulePassed(module) ? 1 : 0;
        int[] numbers = {or(view.moduleMark(module)), passed, marked, compensated, view.papersOf(module).size()};
        return in(what, 0, 4) ? numbers[what] : BAD;
    }

    int student(int student, int what) {
        if (noStudent(student)) {
            return NONE;
        }
        View view = new View(student);
        int firsts = 0;
        int resits = 0;
        for (Attempt attempt : now.attempts) {
            firsts += attempt.student == student ? 1 : 0;
            resits += attempt.student == student && attempt.resit != null ? 1 : 0;
        }
        switch (what) {
            case 0: return now.students.get(student);
            case 1: return or(view.average());
            case 2: return view.grade()[0];
            case 3: return view.passedCredits();
            case 4: return view.count(2);
            case 5: return view.count(3);
            case 6: return inRanks().indexOf(student);
            case 7: return firsts;
            case 8: return resits;
            default: return BAD;
        }
    }

    int again(int student) {
        return noStudent(student) ? NONE : gradeOf(student);
    }

    int why(int student, int what) {
        if (noStudent(student)) {
            return NONE;
        }
        View view = new View(student);
        int[] grade = view.grade();
        if (what == 0) {
            return grade[1];
        }
        if (what != 1) {
            return BAD;
        }
        if (grade[1] == 1) {
            for (int module : view.counting()) {
                if (view.moduleMark(module) == null) {
                    return module;
                }
            }
            return NOTHING;
        }
        for (int paper = 0; grade[1] == 2 && paper < view.marks.length; paper++) {
            if (view.verdict(paper) == 3) {
                return paper;
            }
        }
        int limit = grade[0] == 4 ? 0 : 80 - 10 * grade[0];
        return view.average() - 100 * limit;
    }

    int ranked(int place) {
        return in(place, 0, now.students.size() - 1) ? inRanks().get(place) : NONE;
    }

    int ofClass(int grade, int what) {
        if (!in(grade, 0, 5)) {
            return NONE;
        }
        int count = 0;
        int border = 0;
        int sum = 0;
        for (int student = 0; student < now.students.size(); student++) {
            View view = new View(student);
            if (view.grade()[0] == grade) {
                count++;
                border += view.grade()[1] == 3 ? 1 : 0;
                sum += grade == 0 ? 0 : view.average();
            }
        }
        int mean = grade == 0 || count == 0 ? NOTHING : sum / count;
        return what == 0 ? count : what == 1 ? border : what == 2 ? mean : BAD;
    }

    int classIf(int student, int paper, int mark) {
        if (noStudent(student) || noPaper(paper)) {
            return NONE;
        }
        if (!in(mark, 0, 100)) {
            return BAD;
        }
        View view = new View(student);
        view.marks[paper] = mark;
        return view.grade()[0];
    }

    int needed(int student, int paper) {
        if (noStudent(student) || noPaper(paper)) {
            return NONE;
        }
        List<Integer> best = Arrays.asList(1, 2, 3, 4, 5, 0);
        int present = best.indexOf(gradeOf(student));
        for (int mark = 0; mark <= 100; mark++) {
            int place = best.indexOf(classIf(student, paper, mark));
            if (place < 4 && place < present) {
                return mark;
            }
        }
        return NOTHING;
    }

    int changedIf(int what, int v) {
        if (badSetting(what, v)) {
            return BAD;
        }
        List<Integer> classes = new ArrayList<>();
        for (int student = 0; student < now.students.size(); student++) {
            classes.add(gradeOf(student));
        }
        int present = now.settings.set(what, v);
        int changed = 0;
        for (int student = 0; student < now.students.size(); student++) {
            changed += gradeOf(student) == classes.get(student) ? 0 : 1;
        }
        now.settings.set(what, present);
        return changed;
    }

    int append(int code) {
        if (!in(code, 32, 126)) {
            return BAD;
        }
        if (text.length() == 80) {
            return FULL;
        }
        text += (char) code;
        return text.length();
    }

    private static boolean canContinue(String start) {
        Matcher matcher = ENTRIES.matcher(start);
        return matcher.matches() || matcher.hitEnd();
    }

    int read() {
        String all = text;
        text = "";
        for (int length = 1; length <= all.length(); length++) {
            if (!canContinue(all.substring(0, length))) {
                return -1000 - (length - 1);
            }
        }
        if (!ENTRIES.matcher(all).matches()) {
            return -1000 - all.length();
        }
        State old = now.copy();
        String[] entries = all.split(";");
        for (int i = 0; i < entries.length; i++) {
            String[] numbers = entries[i].substring(1).split("[.=]");
            char kind = entries[i].charAt(0);
            int student = Integer.parseInt(numbers[0]);
            int paper = Integer.parseInt(numbers[1]);
            int raw = numbers.length > 2 ? Integer.parseInt(numbers[2]) : 0;
            Refusal refusal = against(kind, student, paper, raw, i);
            if (refusal != null) {
                refused = refusal;
                now = old;
                return REFUSED;
            }
            carryOut(kind, student, paper, raw);
        }
        State then = now;
        now = old;
        change();
        now = then;
        return entries.length;
    }

    int refusal(int what) {
        if (!in(what, 0, 2)) {
            return BAD;
        }
        if (refused == null) {
            return NOTHING;
        }
        return what == 0 ? refused.reason : what == 1 ? refused.entry : refused.about;
    }

    int write(int student) {
        if (noStudent(student)) {
            return NONE;
        }
        View view = new View(student);
        List<String> parts = new ArrayList<>();
        for (int paper = 0; paper < view.marks.length; paper++) {
            Attempt a = find(student, paper);
            if (a != null) {
                String r = a.resit != null && worth(a) > scaledFirst(a) ? "r" : "";
                String verdict = List.of("", "", "c", "f").get(view.verdict(paper));
                parts.add(paper + ":" + view.marks[paper] + r + verdict);
            }
        }
        record = String.join(";", parts);
        return record.length();
    }

    int written(int index) {
        return in(index, 0, record.length() - 1) ? record.charAt(index) : NONE;
    }

    int account(int what) {
        int resits = 0;
        int absences = 0;
        int marks = 0;
        int credits = 0;
        int passedCredits = 0;
        for (Attempt a : now.attempts) {
            resits += a.resit != null ? 1 : 0;
            absences += a.kind != 'm' ? 1 : 0;
            marks += markOf(a);
        }
        for (int module = 0; module < now.modules.size(); module++) {
            int number = module;
            boolean counts = now.papers.stream().anyMatch(paper -> paper.module == number);
            credits += counts ? now.modules.get(module) : 0;
        }
        for (int student = 0; student < now.students.size(); student++) {
            passedCredits += new View(student).passedCredits();
        }
        int[] accounts = {now.modules.size(), now.papers.size(), now.students.size(), now.attempts.size(),
            resits, absences, marks, credits, passedCredits, text.length(), before.size()};
        if (in(what, 11, 15)) {
            return now.settings.get(what - 11);
        }
        return in(what, 0, 10) ? accounts[what] : BAD;
    }

    int undo() {
        if (before.isEmpty()) {
            return NOTHING;
        }
        now = before.remove(before.size() - 1);
        return before.size();
    }

    int save() {
        snapshot = now.copy();
        return now.students.size();
    }

    int restore() {
        if (snapshot == null) {
            return NOTHING;
        }
        now = snapshot.copy();
        before.clear();
        return now.students.size();
    }
}
