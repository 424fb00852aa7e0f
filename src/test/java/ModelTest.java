import java.lang.reflect.InvocationTargetException;
import java.lang.reflect.Method;
import java.lang.reflect.Modifier;
import java.util.ArrayList;
import java.util.Arrays;
import java.util.Comparator;
import java.util.List;
import java.util.Random;

/** Runs of calls by chance (by a fixed seed) on the class and on the model: every answer must be the same. */
public final class ModelTest {
    private static final int RUNS = Integer.getInteger("runs", 1500);
    /** What an object answers beyond them is free. */
    private static final int CALLS = 512;

    private final Due due;
    private final Random chance;
    private final BeesBooks books = new BeesBooks();
    private final Model model = new Model();
    private final List<String> latest = new ArrayList<>();

    private ModelTest(Due due, int seed) {
        this.due = due;
        this.chance = new Random(seed);
    }

    public static void main(String[] args) throws Exception {
        Due due = new Due("ModelTest");
        List<Method> methods = new ArrayList<>();
        for (Method method : BeesBooks.class.getDeclaredMethods()) {
            if (Modifier.isPublic(method.getModifiers())) {
                methods.add(method);
            }
        }
        methods.sort(Comparator.comparing(Method::getName));
        for (int run = 0; run < RUNS; run++) {
            new ModelTest(due, run).run(methods, run);
        }
        due.end();
    }

    private void run(List<Method> methods, int run) throws Exception {
        int begin = 1 + chance.nextInt(6);
        for (int i = 0; i < begin; i++) {
            call("account", chance.nextInt(49));
        }
        boolean writesMuch = run % 4 == 0;
        while (latest.size() < CALLS) {
            int way = chance.nextInt(100);
            if (way < 2) {
                tellLaw();
            } else if (way < 7) {
                fillRow();
            } else if (way < (writesMuch ? 40 : 18)) {
                call("sale", 10 * chance.nextInt(6) + 1 + chance.nextInt(6));
            } else {
                Method method = methods.get(chance.nextInt(methods.size()));
                boolean empties = method.getName().equals("eat") || method.getName().equals("fly");
                if (!empties || !writesMuch || chance.nextInt(20) == 0) {
                    call(method.getName(), argumentsOf(method));
                }
            }
        }
    }

    private void tellLaw() throws Exception {
        String text = chance.nextInt(3) == 0 ? Texts.perhapsFaulty(chance) : Texts.whole(chance);
        for (int i = 0; i < text.length(); i++) {
            call("feed", (int) text.charAt(i));
        }
        call("law");
    }

    private void fillRow() throws Exception {
        int shelf = chance.nextInt(6);
        int length = chance.nextInt(chance.nextInt(3) == 0 ? 61 : 16);
        call("row", shelf, chance.nextInt(12) == 0 ? chance.nextInt(5) : 0, length);
        int way = chance.nextInt(5);
        int[] free = freePlaces();
        for (int i = 0; i < length; i++) {
            int v = chance.nextInt(49);
            if (way == 0) {
                v = i % 2 == 0 ? chance.nextInt(6) : 1 + chance.nextInt(6);
            } else if (way == 1) {
                v = chance.nextInt(8);
            } else if (way == 2) {
                v = i < free.length ? free[i] : v;
            } else if (way == 3) {
                v = i % 3 == 0 ? chance.nextInt(2) : i % 3 == 1 ? 1 + chance.nextInt(6) : model.where(11);
            }
            call("put", shelf, i, chance.nextInt(80) == 0 ? chance.nextLong() : v);
        }
    }

    /** Cells that hold something, in an order by chance: what read() and open() need. */
    private int[] freePlaces() {
        List<Integer> cells = new ArrayList<>();
        for (int cell = 0; cell < 49; cell++) {
            if (model.cell(cell, 0) >= 0) {
                cells.add(cell);
            }
        }
        java.util.Collections.shuffle(cells, chance);
        return cells.stream().mapToInt(Integer::intValue).toArray();
    }

    private Object[] argumentsOf(Method method) {
        Object[] arguments = new Object[method.getParameterCount()];
        for (int i = 0; i < arguments.length; i++) {
            long argument = argument(method.getName(), i);
            int way = chance.nextInt(60);
            if (way == 0) {
                argument = chance.nextInt();
            } else if (way == 1) {
                argument = new int[] {Integer.MIN_VALUE, Integer.MAX_VALUE, -1, -2, 60, 61}[chance.nextInt(6)];
            }
            boolean isLong = method.getParameterTypes()[i] == long.class;
            arguments[i] = isLong ? (Object) (chance.nextInt(4) == 0 ? chance.nextLong() : argument) : (int) argument;
        }
        return arguments;
    }

    private int upTo(int most) {
        return chance.nextInt(most + 2);
    }

    private int argument(String name, int i) {
        String key = name + i;
        switch (key) {
            case "account0": case "cell0": case "far0": case "far1":
                return upTo(48);
            case "accounts1": case "accounts2": case "mend2":
                return chance.nextInt(8);
            case "mend1": case "of1": case "led0": case "count0":
                return chance.nextInt(8);
            case "mend0": case "of0":
                return chance.nextInt(2) == 0 ? 0 : chance.nextInt(7);
            case "cell1":
                return chance.nextInt(11);
            case "feed0":
                return chance.nextInt(257);
            case "where0": case "sale0":
                return chance.nextInt(60);
            case "sales1": case "order2":
                return chance.nextInt(8) - 1;
            case "winter0": case "eat0":
                return name.equals("eat") ? chance.nextInt(6) : upTo(49);
            case "outlasts1":
                return 1 + upTo(chance.nextInt(2) == 0 ? 20 : 98);
            case "order1":
                return 100 * chance.nextInt(6) + chance.nextInt(51);
            case "heat0": case "swarm1":
                return chance.nextInt(7) - 1;
            case "swarm0": case "fly0":
                return 10 * chance.nextInt(49) + chance.nextInt(name.equals("fly") ? 2 : 5);
            case "least1":
                return 1 + upTo(chance.nextInt(2) == 0 ? 6 : 36);
            case "dance0":
                return upTo(7);
            case "dance1": case "dances1": case "right0":
                return chance.nextInt(10) == 0 ? chance.nextInt(8) : 1 + chance.nextInt(6);
            case "read2":
                return model.of(chance.nextInt(6), 3) + chance.nextInt(3) - 1;
            case "pass0": case "pass1": case "mostFalse0":
                return chance.nextInt(key.equals("pass1") ? 2 : 13);
            case "drawn0":
                return chance.nextInt();
            case "drawn1":
                return 100 * (1 + chance.nextInt(60)) + chance.nextInt(50);
            case "act0": case "keep1":
                return chance.nextInt(30) - 1;
            case "act2":
                return chance.nextInt(200) - 100;
            case "trace0":
                return chance.nextInt(26);
            case "row1":
                return chance.nextInt(6);
            case "row2":
                return chance.nextInt(63) - 1;
            case "body0": case "taken1":
                return chance.nextInt(9);
            default:
                return chance.nextInt(6);
        }
    }

    private void call(String name, Object... arguments) throws Exception {
        if (latest.size() >= CALLS) {
            return;
        }
        long got = answer(books, name, arguments);
        long want = answer(model, name, arguments);
        latest.add(name + Arrays.toString(arguments) + " = " + want);
        due.is(name + Arrays.toString(arguments), got, want);
        if (got != want) {
            System.out.println(String.join("\n", latest.subList(Math.max(0, latest.size() - 12), latest.size())));
        }
    }

    private static long answer(Object on, String name, Object[] arguments) throws Exception {
        for (Method method : on.getClass().getDeclaredMethods()) {
            if (!method.getName().equals(name) || method.getParameterCount() != arguments.length) {
                continue;
            }
            if (Modifier.isPrivate(method.getModifiers()) || Modifier.isStatic(method.getModifiers())) {
                continue;
            }
            Object[] fitting = new Object[arguments.length];
            for (int i = 0; i < arguments.length; i++) {
                long v = ((Number) arguments[i]).longValue();
                fitting[i] = method.getParameterTypes()[i] == long.class ? (Object) v : (Object) (int) v;
            }
            try {
                return ((Number) method.invoke(on, fitting)).longValue();
            } catch (InvocationTargetException e) {
                throw new IllegalStateException(name + Arrays.toString(arguments), e.getCause());
            }
        }
        throw new IllegalStateException("no " + name);
    }
}
