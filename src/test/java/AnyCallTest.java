import java.lang.reflect.InvocationTargetException;
import java.lang.reflect.Method;
import java.lang.reflect.Modifier;
import java.util.ArrayList;
import java.util.Comparator;
import java.util.List;
import java.util.Random;

/** Any call with any numbers, in any state: none may throw, and none that is refused may change anything. */
public final class AnyCallTest {
    private static final int[] EDGES = {Integer.MIN_VALUE, Integer.MIN_VALUE + 1, -1000, -101, -100, -14, -11, -10, -5,
        -3, -2, -1, 0, 1, 2, 3, 4, 5, 6, 7, 8, 9, 10, 11, 12, 13, 24, 36, 37, 38, 40, 41, 47, 48, 49, 50, 59, 60, 61,
        99, 100, 101, 119, 120, 121, 149, 150, 255, 256, 299, 300, 483, 484, 489, 490, 500, 600, 6000, 6049, 6050, 6100,
        1 << 30, Integer.MAX_VALUE - 1, Integer.MAX_VALUE};
    private static final int CALLS = 512;
    /** So few that a probe of Face may follow them within the calls that an object answers. */
    private static final int CALLS_AHEAD = 120;
    private static final Due DUE = new Due("AnyCallTest");
    private static final List<Method> METHODS = new ArrayList<>();

    private record Step(Method method, Object[] arguments) {
    }

    private AnyCallTest() {
    }

    public static void main(String[] args) {
        for (Method method : BeesBooks.class.getDeclaredMethods()) {
            if (Modifier.isPublic(method.getModifiers())) {
                METHODS.add(method);
            }
        }
        METHODS.sort(Comparator.comparing(Method::getName));
        Random chance = new Random(11);
        for (int run = 0; run < 400; run++) {
            answersAll(chance, run % 5 != 0);
        }
        for (int run = 0; run < 3000; run++) {
            refusalsChangeNothing(chance);
        }
        DUE.end();
    }

    private static void answersAll(Random chance, boolean begun) {
        BeesBooks books = new BeesBooks();
        int calls = 0;
        for (int i = 0; begun && i < 60; i++) {
            books.account(chance.nextInt(49));
            books.sale(10 * chance.nextInt(6) + 1 + chance.nextInt(6));
            books.row(i % 6, i % 7 == 0 ? 2 : 0, 60);
            books.put(i % 6, i, chance.nextInt(60));
            books.body(i % 8);
            calls += 5;
        }
        while (calls < CALLS) {
            answer(books, anyStep(chance));
            calls++;
        }
    }

    /** The same steps on several objects; what is refused at their end must leave all as it was. */
    private static void refusalsChangeNothing(Random chance) {
        List<Step> steps = new ArrayList<>();
        int length = chance.nextInt(CALLS_AHEAD);
        for (int i = 0; i < length; i++) {
            steps.add(anyStep(chance));
        }
        Step last = anyStep(chance);
        long answer = answer(after(steps), last);
        boolean refused = answer < 0 && answer > -100 || answer == Long.MIN_VALUE;
        if (refused && !last.method.getName().equals("act")) {
            String before = Face.of(() -> after(steps));
            steps.add(last);
            String after = Face.of(() -> after(steps));
            DUE.holds(last.method.getName() + " changes nothing by " + answer, before.equals(after));
        }
    }

    private static BeesBooks after(List<Step> steps) {
        BeesBooks books = new BeesBooks();
        for (Step step : steps) {
            answer(books, step);
        }
        return books;
    }

    private static Step anyStep(Random chance) {
        Method method = METHODS.get(chance.nextInt(METHODS.size()));
        Object[] arguments = new Object[method.getParameterCount()];
        for (int i = 0; i < arguments.length; i++) {
            int v = chance.nextInt(3) == 0 ? EDGES[chance.nextInt(EDGES.length)] : chance.nextInt(7);
            arguments[i] = method.getParameterTypes()[i] == long.class ? (Object) (long) v : (Object) v;
        }
        return new Step(method, arguments);
    }

    private static long answer(BeesBooks books, Step step) {
        try {
            return ((Number) step.method.invoke(books, step.arguments)).longValue();
        } catch (InvocationTargetException e) {
            DUE.holds(step.method + " threw " + e.getCause(), false);
        } catch (IllegalAccessException e) {
            DUE.holds(step.method + " is not to be called: " + e, false);
        }
        return 0;
    }
}
