import java.lang.management.ManagementFactory;
import java.lang.reflect.Array;
import java.lang.reflect.Field;
import java.lang.reflect.Modifier;
import java.util.ArrayDeque;
import java.util.Collections;
import java.util.Deque;
import java.util.IdentityHashMap;
import java.util.Random;
import java.util.Set;

/** What an object needs of the room: a little when it is made, nothing by its calls; and that objects share nothing. */
public final class RoomTest {
    /** So that a thousand objects still fit into the room of 600,000 objects and 7.3 million elements. */
    private static final int MOST_OBJECTS = 100, MOST_ELEMENTS = 7000;
    private static final Due DUE = new Due("RoomTest");

    private RoomTest() {
    }

    public static void main(String[] args) throws IllegalAccessException {
        aNewObjectIsSmall();
        callsKeepNothing();
        callsMakeNothing();
        objectsShareNothing();
        DUE.end();
    }

    /** All objects and arrays that one reaches, but for texts. */
    private static Set<Object> reached(Object from) throws IllegalAccessException {
        Set<Object> found = Collections.newSetFromMap(new IdentityHashMap<>());
        Deque<Object> waiting = new ArrayDeque<>();
        waiting.add(from);
        while (!waiting.isEmpty()) {
            Object one = waiting.remove();
            if (one instanceof String || !found.add(one)) {
                continue;
            }
            if (one instanceof Object[]) {
                Collections.addAll(waiting, (Object[]) one);
            } else if (!one.getClass().isArray()) {
                for (Field field : one.getClass().getDeclaredFields()) {
                    addValue(field, one, waiting);
                }
            }
        }
        return found;
    }

    private static void addValue(Field field, Object of, Deque<Object> waiting) throws IllegalAccessException {
        if (!field.getType().isPrimitive() && !Modifier.isStatic(field.getModifiers())) {
            field.setAccessible(true);
            waiting.add(field.get(of));
        }
    }

    private static int elements(Set<Object> objects) {
        int elements = 0;
        for (Object one : objects) {
            if (one.getClass().isArray()) {
                elements += Array.getLength(one);
                continue;
            }
            for (Field field : one.getClass().getDeclaredFields()) {
                elements += Modifier.isStatic(field.getModifiers()) ? 0 : 1;
            }
        }
        return elements;
    }

    private static void aNewObjectIsSmall() throws IllegalAccessException {
        Set<Object> objects = reached(new BeesBooks());
        DUE.holds(objects.size() + " objects are " + MOST_OBJECTS + " at most", objects.size() <= MOST_OBJECTS);
        DUE.holds(elements(objects) + " elements are " + MOST_ELEMENTS + " at most", elements(objects) <= MOST_ELEMENTS);
    }

    private static void callsKeepNothing() throws IllegalAccessException {
        BeesBooks x = new BeesBooks();
        Set<Object> before = reached(x);
        everyCall(x, new Random(1));
        everyCall(x, new Random(2));
        Set<Object> after = reached(x);
        DUE.is("objects behind the calls", after.size(), before.size());
        after.removeAll(before);
        DUE.is("new ones among them", after.size(), 0);
    }

    private static void callsMakeNothing() {
        com.sun.management.ThreadMXBean threads =
            (com.sun.management.ThreadMXBean) ManagementFactory.getThreadMXBean();
        long thread = Thread.currentThread().getId();
        Random chance = new Random(3);
        // The first calls make the machine load what it needs.
        for (int i = 0; i < 5; i++) {
            everyCall(new BeesBooks(), chance);
        }
        BeesBooks x = new BeesBooks();
        threads.getThreadAllocatedBytes(thread);
        long before = threads.getThreadAllocatedBytes(thread);
        everyCall(x, chance);
        everyCall(x, chance);
        long after = threads.getThreadAllocatedBytes(thread);
        DUE.is("bytes that the calls make", after - before, 0);
    }

    /** What one object tells while another is busy is what it tells alone. */
    private static void objectsShareNothing() {
        for (int seed = 0; seed < 20; seed++) {
            long alone = everyCall(new BeesBooks(), new Random(seed));
            BeesBooks x = new BeesBooks();
            BeesBooks busy = Scenes.busy();
            everyCall(busy, new Random(seed + 100));
            DUE.is("all answers beside a busy object", everyCall(x, new Random(seed)), alone);
        }
        BeesBooks one = Scenes.laid(24, 3);
        BeesBooks other = new BeesBooks();
        DUE.is("count(0) of another", other.count(0), 0);
        DUE.is("count(1) of another", other.count(1), 0);
        one.image();
        DUE.is("back() of another", other.back(), Boundary.STATE);
        one.row(0, 0, 4);
        DUE.is("element(0, 0) of another", other.element(0, 0), Boundary.BAD_LONG);
    }

    /** Each call of the face some times, fewer than 256 calls in all; what they answer, folded into one number. */
    private static long everyCall(BeesBooks x, Random chance) {
        long all = 0;
        for (int i = 0; i < 2; i++) {
            int n = chance.nextInt(6);
            all = 31 * all + accountsAndLaw(x, n);
            all = 31 * all + inThought(x, n);
            all = 31 * all + dancesAndRows(x, n);
            all = 31 * all + inDeed(x, n);
            all = 31 * all + actsAndShelves(x, n);
        }
        return all;
    }

    private static long accountsAndLaw(BeesBooks x, int n) {
        long all = x.account(8 * n) + x.row(0, 0, 12) + x.put(0, 0, n) + x.put(0, 1, n + 1) + x.put(0, 3, 1);
        all = 31 * all + x.accounts(0, 0, 2) + x.mend(0, 0, 7 * n) + x.mend(0, 1, n) + x.mend(0, 2, n);
        all = 31 * all + x.feed('n') + x.feed('+') + x.feed('0' + n) + x.feed(n == 0 ? '+' : 'k') + x.law();
        all = 31 * all + x.feed('d') + x.feed('*') + x.feed('0' + n) + x.law() + x.feed('(');
        return 31 * all + x.of(0, 3) + x.cell(8, n) + x.far(8 * n, 40);
    }

    private static long inThought(BeesBooks x, int n) {
        long all = x.where(n) + x.sales(0, -1) + x.sales(0, 1) + x.balance(0, 0) + x.winter(n, 0);
        all = 31 * all + x.outlasts(0, n + 1) + x.order(0, n, -1) + x.order(0, n, 0) + x.heat(-1) + x.heat(0);
        return 31 * all + x.swarm(81 * n, -1) + x.swarm(81, 0) + x.least(0, 1 + n, 0) + x.least(0, 1, 2);
    }

    private static long dancesAndRows(BeesBooks x, int n) {
        long all = x.dance(n, 3, 0) + x.dances(0, 1, 1) + x.dances(0, 1, 2) + x.right(3, n % 2);
        all = 31 * all + x.read(0, 0, n, 0) + x.read(0, 0, n, 1) + x.read(0, 0, n, 2) + x.open(0, 0);
        return 31 * all + x.pass(n, 0, 1) + x.pass(n, 1, 0) + x.mostFalse(n) + x.judge(0) + x.drawn(n, 1200 + n, 0);
    }

    private static long inDeed(BeesBooks x, int n) {
        long all = x.sale(1 + n) + x.sale(11) + x.sale(5) + x.sale(2) + x.run() + x.image() + x.eat(1) + x.fly(8 * n);
        all = 31 * all + x.led(n) + (n < 3 ? x.back() : 0) + x.undo() + x.undo() + x.redo();
        return 31 * all + x.count(0) + x.count(1) + x.count(2) + x.count(3) + x.count(4);
    }

    private static long actsAndShelves(BeesBooks x, int n) {
        long all = x.body(n) + x.body(7) + x.act(1, 3, n) + x.act(0, n, 5) + x.trace(0) + x.trace(3) + x.keep(1, 0);
        all = 31 * all + x.taken(1, 0) + x.row(2, n, 5) + x.put(2, 3, -n) + x.element(2, 3) + x.shift(2, 1, 2, 0, 4);
        return 31 * all + x.element(2, 2) + x.keep(1, -1) + x.count(5) + x.count(6);
    }
}
