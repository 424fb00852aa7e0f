import java.lang.reflect.InvocationTargetException;
import java.lang.reflect.Method;
import java.util.ArrayList;
import java.util.Comparator;
import java.util.List;
import java.util.Set;
import java.util.TreeSet;
import java.util.function.Supplier;

/**
 * What the boundary tests share. A test is a static method without arguments, named by its promise and by the boundary
 * that a sentence of the document names: promise2_door49IsBad. All of a class are found and run by their names.
 */
abstract class Boundary {
    static final int BAD = -1, NOT = -2, FULL = -3, STATE = -5;
    static final int NOTHING = -11, KIND = -12, PLACE = -13, SIZE = -14;
    static final long BAD_LONG = Long.MIN_VALUE;
    static final int LEAST = Integer.MIN_VALUE, MOST = Integer.MAX_VALUE;
    static final int BYTES = Scenes.BYTES, SHORTS = Scenes.SHORTS, INTS = Scenes.INTS, LONGS = Scenes.LONGS;
    static final int BOOLEANS = Scenes.BOOLEANS;

    interface Call {
        long on(BeesBooks x);
    }

    interface ShelfCall {
        long on(BeesBooks x, int shelf);
    }

    private static Due due;
    private static String test = "";
    private static int answers = 0;

    /** Runs the tests of a class, which are to hold at least one of each promise from the first to the last. */
    static void runAll(Class<?> tests, int first, int last) throws IllegalAccessException {
        due = new Due(tests.getSimpleName());
        List<Method> methods = new ArrayList<>();
        Set<Integer> promises = new TreeSet<>();
        for (Method method : tests.getDeclaredMethods()) {
            if (method.getName().matches("promise\\d+_\\w+")) {
                methods.add(method);
                promises.add(promiseOf(method));
            }
        }
        methods.sort(Comparator.comparing(Boundary::promiseOf).thenComparing(Method::getName));
        for (Method method : methods) {
            run(method);
        }
        for (int promise = first; promise <= last; promise++) {
            due.holds("a test of promise " + promise, promises.remove(promise));
        }
        due.holds("no test of other promises than " + first + " to " + last, promises.isEmpty());
        due.end();
    }

    private static int promiseOf(Method method) {
        String name = method.getName();
        return Integer.parseInt(name.substring("promise".length(), name.indexOf('_')));
    }

    private static void run(Method method) throws IllegalAccessException {
        test = method.getName();
        answers = 0;
        try {
            method.setAccessible(true);
            method.invoke(null);
        } catch (InvocationTargetException e) {
            due.holds(test + " ends without " + e.getCause(), false);
        }
        due.holds(test + " asks something", answers > 0);
    }

    static void is(String call, long got, long want) {
        answers++;
        due.is(test + ": " + call, got, want);
    }

    static void isText(String what, String got, String want) {
        answers++;
        due.holds(test + ": " + what + unlike(got, want), got.equals(want));
    }

    private static String unlike(String got, String want) {
        int at = 0;
        while (at < got.length() && at < want.length() && got.charAt(at) == want.charAt(at)) {
            at++;
        }
        return " is " + about(got, at) + ", due is " + about(want, at) + " (from sign " + at + ")";
    }

    private static String about(String text, int at) {
        return text.substring(Math.max(0, at - 20), Math.min(text.length(), at + 20)).replace('\n', ' ');
    }

    /** The answer of one call on a scene of its own. */
    static void answers(Supplier<BeesBooks> scene, Call call, long want) {
        is("the call", call.on(scene.get()), want);
    }

    /** A refused call: its answer, and that nothing at all is another than before. */
    static void refused(Supplier<BeesBooks> scene, Call call, long want) {
        answers(scene, call, want);
        changesNothing(scene, call);
    }

    /** Refused where there is something of everything. */
    static void refused(Call call, long want) {
        refused(Scenes::busy, call, want);
    }

    static void changesNothing(Supplier<BeesBooks> scene, Call call) {
        String after = Face.of(() -> {
            BeesBooks x = scene.get();
            call.on(x);
            return x;
        });
        isText("what calls can tell then", after, Face.of(scene));
    }

    static void changesNothing(Call call) {
        changesNothing(Scenes::busy, call);
    }

    /** What is refused wherever a shelf with a row of bytes is wanted. */
    static void wantsBytes(ShelfCall call, long nothing, long kind, long bad) {
        refused(Scenes::oddShelves, x -> call.on(x, 0), nothing);
        for (int shelf = 1; shelf <= 5; shelf++) {
            int odd = shelf;
            refused(Scenes::oddShelves, x -> call.on(x, odd), kind);
        }
        for (int shelf : new int[] {-1, 6, LEAST, MOST}) {
            refused(Scenes::oddShelves, x -> call.on(x, shelf), bad);
        }
    }
}
