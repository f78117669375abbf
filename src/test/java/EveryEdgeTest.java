import java.lang.reflect.InvocationTargetException;
import java.lang.reflect.Method;
import java.util.ArrayList;
import java.util.List;

/**
 * Every call with every combination of numbers at the document's edges, on a new object, on one where
 * nothing is as at first, and on a full one: none throws, and the answers are those of PlainYears.
 */
public final class EveryEdgeTest {
    private static final int MIN = Integer.MIN_VALUE;
    private static final int MAX = Integer.MAX_VALUE;
    private static final int[] NUMBERS = {
        MIN, -1000001, -100, -99, -11, -10, -2, -1, 0, 1, 2, 3, 4, 5, 6, 7, 8, 9, 10, 11, 12, 13, 20, 21, 22, 30, 31, 39, 40, 41,
        50, 51, 66, 79, 80, 99, 100, 101, 399, 400, 999, 1000, 99999, 100000, MAX
    };
    // Of calls with more than two numbers, and of move(), which has five.
    private static final int[] FEWER = {
        MIN, -100, -2, -1, 0, 1, 2, 3, 4, 5, 6, 7, 8, 9, 10, 11, 12, 16, 21, 30, 31, 32, 40, 41, 54, 66, 99, 100, 399, 400, 99999,
        100000, MAX
    };
    private static final int[] FEWEST = {MIN, -1, 0, 1, 2, 3, 4, 6, 7, 40, 41, MAX};
    private static final int CALLS_EACH = 300;

    private final List<Step> begin = new ArrayList<>();
    private final PlainYears dueThen;
    private NineYears is;
    private PlainYears due;
    private int calls;
    private long all;

    private EveryEdgeTest(String world) {
        for (String line : world.split("\n")) {
            Step.read(line.strip(), begin);
        }
        is = new NineYears();
        due = new PlainYears();
        for (Step step : begin) {
            both(step.call().method(), step.call().args());
        }
        dueThen = due.copy();
    }

    public static void main(String[] args) {
        long all = 0;
        for (String world : new String[] {"", Worlds.TWO + Worlds.words(2, 0, 2, 1, 0), Worlds.RICH, Worlds.FULL}) {
            EveryEdgeTest test = new EveryEdgeTest(world);
            for (Method method : NineYears.class.getDeclaredMethods()) {
                if (java.lang.reflect.Modifier.isPublic(method.getModifiers())) {
                    test.callWithAll(method);
                }
            }
            all += test.all;
        }
        System.out.println(all + " calls at the edges: all answers are alike");
    }

    private void beginAnew() {
        is = new NineYears();
        for (Step step : begin) {
            step.call().on(is);
        }
        due = dueThen.copy();
        calls = 0;
    }

    private void callWithAll(Method method) {
        int many = method.getParameterCount();
        int[] numbers = many > 3 ? FEWEST : many > 2 ? FEWER : NUMBERS;
        int[] at = new int[many];
        beginAnew();
        for (int place = 0; place >= 0;) {
            Object[] args = new Object[many];
            for (int i = 0; i < many; i++) {
                args[i] = method.getParameterTypes()[i] == long.class ? (Object) (long) numbers[at[i]] : (Object) numbers[at[i]];
            }
            if (calls >= CALLS_EACH) {
                beginAnew();
            }
            both(method, args);
            for (place = many - 1; place >= 0 && ++at[place] == numbers.length; place--) {
                at[place] = 0;
            }
        }
    }

    private void both(Method method, Object[] args) {
        calls++;
        all++;
        try {
            Method plain = PlainYears.class.getMethod(method.getName(), method.getParameterTypes());
            plain.setAccessible(true);
            long got = ((Number) method.invoke(is, args)).longValue();
            long want = ((Number) plain.invoke(due, args)).longValue();
            if (got != want) {
                fail(method.getName() + List.of(args) + " answered " + got + ", due is " + want);
            }
        } catch (InvocationTargetException e) {
            fail(method.getName() + List.of(args) + " threw " + e.getCause());
        } catch (ReflectiveOperationException e) {
            fail(e.toString());
        }
    }

    private static void fail(String what) {
        System.out.println(what);
        System.exit(1);
    }
}
