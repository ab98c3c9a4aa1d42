import java.lang.reflect.Method;
import java.util.Arrays;
import java.util.List;
import java.util.Random;

/**
 * Every method with any numbers, great and small, in any state (the seeds are fixed): none throws, and the class answers
 * as the slow telling of the document does.
 */
public final class AnyNumbersTest {
    private static final int RUNS = 240;
    private static final int CALLS = 400;
    private static final int[] EDGES = {Integer.MIN_VALUE, Integer.MIN_VALUE + 1, -100000, -9999, -2, -1, 6, 7, 8, 9, 10,
        11, 12, 19, 20, 21, 31, 32, 39, 40, 41, 59, 60, 61, 90, 98, 99, 100, 107, 119, 126, 127, 128, 199, 200, 201, 998,
        999, 1000, 9998, 9999, 10000, 65520, 65521, 99998, 99999, 100000, 100001, Integer.MAX_VALUE - 1,
        Integer.MAX_VALUE};
    private static final String LETTERS = "wlbmsk0159;;";
    private static final List<Method> METHODS = Calls.ofTheFace();
    private static final Check check = new Check();

    private final Random random;
    private final PointsOffice office = new PointsOffice();
    private final SlowOffice slow = new SlowOffice();

    private AnyNumbersTest(long seed) {
        random = new Random(seed);
    }

    public static void main(String[] args) throws ReflectiveOperationException {
        check.due("methods", METHODS.size(), 26);
        for (int run = 0; run < RUNS; run++) {
            check.part("run " + run);
            new AnyNumbersTest(run).play();
        }
        check.finish();
    }

    private void play() throws ReflectiveOperationException {
        for (int call = 0; call < CALLS; call++) {
            Method method = METHODS.get(random.nextInt(METHODS.size()));
            int[] numbers = new int[method.getParameterCount()];
            for (int i = 0; i < numbers.length; i++) {
                numbers[i] = method.getName().equals("write") ? aLetter() : aNumber();
            }
            // days that pass by thousands would soon leave nothing but FULL
            if (method.getName().equals("pass") && numbers[0] > 40 && random.nextInt(20) != 0) {
                numbers[0] = random.nextInt(20);
            }
            check.due(method.getName() + Arrays.toString(numbers), Calls.answer(office, method.getName(), numbers),
                    Calls.answer(slow, method.getName(), numbers));
        }
    }

    private int aLetter() {
        return random.nextInt(10) == 0 ? aNumber() : LETTERS.charAt(random.nextInt(LETTERS.length()));
    }

    private int aNumber() {
        int of = random.nextInt(20);
        if (of == 0) {
            return EDGES[random.nextInt(EDGES.length)];
        }
        if (of == 1) {
            return random.nextInt();
        }
        return of < 5 ? Math.max(0, slow.count(2) - random.nextInt(30)) : random.nextInt(6);
    }
}
