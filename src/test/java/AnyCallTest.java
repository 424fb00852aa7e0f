import java.lang.reflect.InvocationTargetException;
import java.lang.reflect.Method;
import java.lang.reflect.Modifier;
import java.util.ArrayList;
import java.util.Comparator;
import java.util.List;
import java.util.Random;

/** Any call with any numbers, in any state: none may throw, and none that is refused may change anything. */
public final class AnyCallTest {
    private static final int[] EDGES = {Integer.MIN_VALUE, Integer.MIN_VALUE + 1, -1000, -101, -100, -14, -11, -10, -5,
        -3, -2, -1, 0, 1, 2, 3, 4, 5, 6, 7, 8, 9, 10, 11, 12, 13, 24, 36, 37, 38, 40, 41, 47, 48, 49, 50, 59, 60, 61,
        99, 100, 101, 119, 120, 121, 149, 150, 255, 256, 299, 300, 483, 484, 489, 490, 500, 600, 6000, 6049, 6050, 6100,
        1 << 30, Integer.MAX_VALUE - 1, Integer.MAX_VALUE};
    private static final Due DUE = new Due("AnyCallTest");

    private AnyCallTest() {
    }

    public static void main(String[] args) throws Exception {
        List<Method> methods = new ArrayList<>();
        for (Method method : BeesBooks.class.getDeclaredMethods()) {
            if (Modifier.isPublic(method.getModifiers())) {
                methods.add(method);
            }
        }
        methods.sort(Comparator.comparing(Method::getName));
        Random chance = new Random(11);
        for (int run = 0; run < 200; run++) {
            BeesBooks books = new BeesBooks();
            boolean begun = run % 5 != 0;
            for (int i = 0; begun && i < 60; i++) {
                books.account(chance.nextInt(49));
                books.sale(10 * chance.nextInt(6) + 1 + chance.nextInt(6));
                books.row(i % 6, i % 7 == 0 ? 2 : 0, 60);
                books.put(i % 6, i, chance.nextInt(60));
                books.body(i % 8);
            }
            for (int i = 0; i < 512; i++) {
                Method method = methods.get(chance.nextInt(methods.size()));
                callAny(books, method, chance, i % 16 == 0);
            }
        }
        DUE.end();
    }

    private static void callAny(BeesBooks books, Method method, Random chance, boolean looks) throws Exception {
        Object[] arguments = new Object[method.getParameterCount()];
        for (int i = 0; i < arguments.length; i++) {
            int v = chance.nextInt(3) == 0 ? EDGES[chance.nextInt(EDGES.length)] : chance.nextInt(7);
            arguments[i] = method.getParameterTypes()[i] == long.class ? (Object) (long) v : (Object) v;
        }
        String before = looks ? face(books) : "";
        try {
            long answer = ((Number) method.invoke(books, arguments)).longValue();
            boolean refused = answer < 0 && answer > -100 || answer == Long.MIN_VALUE;
            if (looks && refused && !method.getName().equals("act")) {
                DUE.holds(method.getName() + " changes nothing by " + answer, before.equals(face(books)));
            }
        } catch (InvocationTargetException e) {
            DUE.holds(method + " threw " + e.getCause(), false);
        }
    }

    /** All that can be asked without a change. */
    private static String face(BeesBooks books) {
        StringBuilder all = new StringBuilder();
        for (int i = 0; i < 49; i++) {
            all.append(books.cell(i, 0)).append(',').append(books.cell(i, 1)).append(',');
        }
        for (int i = 0; i < 7; i++) {
            all.append(books.count(i)).append(',').append(books.led(i)).append(',').append(books.of(i, 0)).append(',');
            all.append(books.of(0, i)).append(',').append(books.taken(i, 0)).append(',');
            for (int place = 0; place < 60; place++) {
                all.append(books.element(i, place)).append(',');
            }
        }
        for (int i = 0; i < 24; i++) {
            all.append(books.trace(i)).append(',');
        }
        for (int as = 0; as < 60; as++) {
            all.append(books.where(as)).append(',');
        }
        return all.toString();
    }
}
