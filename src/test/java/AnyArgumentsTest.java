import java.lang.reflect.InvocationTargetException;
import java.lang.reflect.Method;
import java.lang.reflect.Modifier;
import java.util.ArrayList;
import java.util.Arrays;
import java.util.Comparator;
import java.util.List;
import java.util.Random;

/** No call throws, whatever the arguments, on an empty board and on a full one. */
public final class AnyArgumentsTest {
    private static final int[] NUMBERS = {Integer.MIN_VALUE, Integer.MIN_VALUE + 1, -1000000, -256, -9, -2, -1, 0, 1,
        2, 3, 4, 5, 6, 7, 8, 9, 10, 15, 16, 19, 20, 21, 50, 60, 61, 80, 99, 100, 101, 126, 127, 150, 160, 200, 201,
        255, 999, 65584, 1 << 30, Integer.MAX_VALUE - 1, Integer.MAX_VALUE};

    private static final Check CHECK = new Check();

    public static void main(String[] args) throws IllegalAccessException {
        for (Method method : methods()) {
            for (int kind = 0; kind < 3; kind++) {
                CHECK.about("board " + kind);
                callWithAll(method, kind);
            }
        }
        for (int seed = 0; seed < 500; seed++) {
            CHECK.about("run " + seed);
            callInRun(new Random(seed));
        }
        CHECK.end();
    }

    private static List<Method> methods() {
        List<Method> found = new ArrayList<>();
        for (Method method : ExamBoard.class.getDeclaredMethods()) {
            if (Modifier.isPublic(method.getModifiers())) {
                found.add(method);
            }
        }
        found.sort(Comparator.comparing(Method::getName));
        return found;
    }

    private static ExamBoard board(int kind) {
        ExamBoard x = new ExamBoard();
        for (int module = 0; kind > 0 && module < 4; module++) {
            x.addModule(module + 1);
        }
        for (int paper = 0; kind > 0 && paper < 8; paper++) {
            x.addPaper(paper % (kind == 1 ? 3 : 4), 1 + paper, 10 + 23 * paper);
        }
        for (int student = 0; kind > 0 && student < 20; student++) {
            x.addStudent(student % 3);
            for (int paper = 0; kind == 2 && paper < 8; paper++) {
                x.mark(student, paper, (student + paper) % 10);
                x.resit(student, paper, 7);
            }
        }
        return x;
    }

    /** A call that throws is told as an answer that is not due. */
    private static void call(ExamBoard x, Method method, Object[] numbers) throws IllegalAccessException {
        String thrown = "nothing thrown";
        try {
            method.invoke(x, numbers);
        } catch (InvocationTargetException e) {
            thrown = e.getCause().toString();
        }
        CHECK.due(method.getName() + Arrays.toString(numbers), thrown, "nothing thrown");
    }

    /** Each number once at each place, the others drawn: the last places are walked through fastest. */
    private static void callWithAll(Method method, int kind) throws IllegalAccessException {
        Random random = new Random(kind);
        int count = method.getParameterCount();
        ExamBoard x = board(kind);
        for (int place = 0; place < Math.max(1, count); place++) {
            for (int number : NUMBERS) {
                for (int round = 0; round < 8; round++) {
                    Object[] numbers = drawn(random, count);
                    if (count > 0) {
                        numbers[place] = number;
                    }
                    call(x, method, numbers);
                }
            }
        }
    }

    private static Object[] drawn(Random random, int count) {
        Object[] numbers = new Object[count];
        for (int i = 0; i < count; i++) {
            boolean small = random.nextInt(3) > 0;
            numbers[i] = small ? random.nextInt(21) : NUMBERS[random.nextInt(NUMBERS.length)];
        }
        return numbers;
    }

    private static void callInRun(Random random) throws IllegalAccessException {
        ExamBoard x = board(random.nextInt(3));
        List<Method> methods = methods();
        for (int i = 0; i < 512; i++) {
            Method method = methods.get(random.nextInt(methods.size()));
            call(x, method, drawn(random, method.getParameterCount()));
        }
    }
}
