import java.util.ArrayDeque;
import java.util.ArrayList;
import java.util.Deque;
import java.util.List;

/**
 * The document once more, in another way than the class goes: cells as coordinates, laws worked out from their
 * text each time, shelves that hold real rows, hives that are real classes. ModelTest runs both side by side.
 */
final class Model {
    private static final int BAD = -1, NOT = -2, FULL = -3, STATE = -5;

    private static final class Entry {
        final int account;
        final int sum;

        Entry(int account, int sum) {
            this.account = account;
            this.sum = sum;
        }
    }

    private static final class Change {
        final int number;
        final int what;
        final int before;
        final int after;

        Change(int number, int what, int before, int after) {
            this.number = number;
            this.what = what;
            this.before = before;
            this.after = after;
        }
    }

    private Entry[] comb = new Entry[49];
    private final List<Integer> doors = new ArrayList<>();
    private int guards = 6;
    private int flip = 1;
    private final StringBuilder tape = new StringBuilder();
    private String lawText = null;
    private int[] led = new int[6];
    private Entry[] imageComb = null;
    private int[] imageLed = null;
    private final Deque<Change> undos = new ArrayDeque<>();
    private final Deque<Change> redos = new ArrayDeque<>();
    private final List<ModelHives.Hive> bodies = new ArrayList<>();
    private List<Integer> trace = new ArrayList<>();
    private final Object[] shelves = new Object[6];

    // ---- the comb

    static boolean beside(int one, int other) {
        return one != other && steps(one, other) == 1;
    }

    /** Steps between hexagons, by the three slanting coordinates whose sum is 0. */
    static int steps(int one, int other) {
        int x = slant(other) - slant(one);
        int z = other / 7 - one / 7;
        int y = -x - z;
        return Math.max(Math.abs(x), Math.max(Math.abs(y), Math.abs(z)));
    }

    private static int slant(int cell) {
        int r = cell / 7;
        return cell % 7 - (r - r % 2) / 2;
    }

    static List<Integer> neighbours(int cell) {
        List<Integer> found = new ArrayList<>();
        for (int other = 0; other < 49; other++) {
            if (beside(cell, other)) {
                found.add(other);
            }
        }
        return found;
    }

    private static final List<List<Integer>> BESIDE = new ArrayList<>();

    static {
        for (int cell = 0; cell < 49; cell++) {
            BESIDE.add(neighbours(cell));
        }
    }

    private static boolean sealed(Entry[] on, int cell) {
        if (on[cell] == null) {
            return false;
        }
        for (int other : BESIDE.get(cell)) {
            if (on[other] == null) {
                return false;
            }
        }
        return true;
    }

    private static int balance(Entry[] on, int account) {
        int all = 0;
        for (Entry entry : on) {
            all += entry != null && entry.account == account ? entry.sum : 0;
        }
        return all;
    }

    private static int held(Entry[] on) {
        int all = 0;
        for (Entry entry : on) {
            all += entry != null ? 1 : 0;
        }
        return all;
    }

    private boolean cellIs(int cell) {
        return cell >= 0 && cell <= 48;
    }

    private boolean accountIs(int account) {
        return account >= 0 && account < doors.size();
    }

    private boolean saleIs(int account, int sum) {
        return accountIs(account) && sum >= 1 && sum <= 6;
    }

    private int rank(Entry[] on, int cell, int account, int sum) {
        int d = steps(cell, doors.get(account));
        if (lawText == null) {
            return 0 - d;
        }
        int n = 0;
        int o = 0;
        for (int other : BESIDE.get(cell)) {
            n += on[other] != null ? 1 : 0;
            o += on[other] != null && on[other].account == account ? 1 : 0;
        }
        return ModelLaw.value(lawText, new int[] {d, n, o, sum, account, cell / 7});
    }

    private int whereOn(Entry[] on, int account, int sum) {
        int best = -1;
        long bestRank = Long.MIN_VALUE;
        for (int cell = 48; cell >= 0; cell--) {
            if (on[cell] == null && rank(on, cell, account, sum) >= bestRank) {
                best = cell;
                bestRank = rank(on, cell, account, sum);
            }
        }
        return best;
    }

    private int writeOn(Entry[] on, int account, int sum) {
        int cell = whereOn(on, account, sum);
        if (cell >= 0) {
            on[cell] = new Entry(account, sum);
        }
        return cell;
    }

    private static int winterOn(Entry[] on, int n) {
        int eaten = 0;
        for (int i = 0; i < n; i++) {
            int worst = -1;
            for (int round = 0; round < 2 && worst < 0; round++) {
                for (int cell = 48; cell >= 0; cell--) {
                    boolean may = on[cell] != null && (round == 1 || !sealed(on, cell));
                    if (may && (worst < 0 || on[cell].sum < on[worst].sum)) {
                        worst = cell;
                    }
                }
            }
            if (worst >= 0) {
                on[worst] = null;
                eaten++;
            }
        }
        return eaten;
    }

    private static int heatOn(Entry[] on) {
        int turned = 0;
        for (int a = 0; a < 49; a++) {
            for (int b = a + 1; b < 49; b++) {
                if (!beside(a, b) || on[a] == null || on[b] == null || sealed(on, a) || sealed(on, b)) {
                    continue;
                }
                if (on[a].account == on[b].account) {
                    continue;
                }
                if (on[a].sum < on[b].sum) {
                    on[a] = new Entry(on[b].account, on[a].sum);
                } else {
                    on[b] = new Entry(on[a].account, on[b].sum);
                }
                turned++;
            }
        }
        return turned;
    }

    private static int swarmOn(Entry[] on, int centre, int m) {
        int gone = 0;
        for (int cell = 0; cell < 49; cell++) {
            if (on[cell] != null && steps(centre, cell) <= m) {
                on[cell] = null;
                gone++;
            }
        }
        return gone;
    }

    // ---- accounts, the comb: the face

    int account(int door) {
        if (!cellIs(door)) {
            return BAD;
        }
        if (doors.size() == 6) {
            return FULL;
        }
        doors.add(door);
        return doors.size() - 1;
    }

    int accounts(int shelf, int i, int n) {
        if (!shelfIs(shelf) || n < 1 || n > 6) {
            return BAD;
        }
        if (shelves[shelf] == null) {
            return 0;
        }
        if (!(shelves[shelf] instanceof byte[])) {
            return -12;
        }
        byte[] row = (byte[]) shelves[shelf];
        for (int came = 0; came < n; came++) {
            if (i < 0 || (long) i + came >= row.length || account(row[i + came]) < 0) {
                return came;
            }
        }
        return n;
    }

    private boolean thingIs(int number, int what) {
        return what == 0 ? accountIs(number) : (what == 1 || what == 2) && number == 0;
    }

    private void tell(int number, int what, int v) {
        if (what == 0) {
            doors.set(number, v);
        } else if (what == 1) {
            guards = v;
        } else {
            flip = v;
        }
    }

    int mend(int number, int what, int v) {
        if (!thingIs(number, what) || v < 0 || v > new int[] {48, 12, 6}[what]) {
            return BAD;
        }
        int was = of(number, what);
        if (was != v) {
            undos.addLast(new Change(number, what, was, v));
            if (undos.size() > 40) {
                undos.removeFirst();
            }
            redos.clear();
            tell(number, what, v);
        }
        return was;
    }

    int of(int number, int what) {
        if (what == 3 && accountIs(number)) {
            return balance(comb, number);
        }
        if (!thingIs(number, what)) {
            return BAD;
        }
        return what == 0 ? doors.get(number) : what == 1 ? guards : flip;
    }

    int cell(int cell, int what) {
        if (!cellIs(cell) || what < 0 || what > 9) {
            return BAD;
        }
        Entry entry = comb[cell];
        List<Integer> sides = BESIDE.get(cell);
        if (what >= 4) {
            return what - 4 < sides.size() ? sides.get(what - 4) : NOT;
        }
        if (what == 3) {
            return sides.size();
        }
        if (what == 2) {
            return sealed(comb, cell) ? 1 : 0;
        }
        if (entry == null) {
            return what == 0 ? NOT : 0;
        }
        return what == 0 ? entry.account : entry.sum;
    }

    int far(int one, int other) {
        return cellIs(one) && cellIs(other) ? steps(one, other) : BAD;
    }

    int feed(int letter) {
        if (letter < 0 || letter > 255) {
            return BAD;
        }
        if (tape.length() == 120) {
            return FULL;
        }
        tape.append((char) letter);
        return tape.length();
    }

    int law() {
        String text = tape.toString();
        tape.setLength(0);
        int fault = ModelLaw.fault(text);
        if (fault >= 0) {
            return -100 - fault;
        }
        lawText = text;
        return 1;
    }

    // ---- in thought

    private boolean asIs(int as) {
        return as >= 0 && saleIs(as / 10, as % 10);
    }

    int where(int as) {
        if (!asIs(as)) {
            return BAD;
        }
        int cell = whereOn(comb, as / 10, as % 10);
        return cell < 0 ? NOT : cell;
    }

    private int bytesFault(int shelf) {
        return shelves[shelf] == null ? -11 : shelves[shelf] instanceof byte[] ? 0 : -12;
    }

    /** The twos that are sales, whether or not they will find a cell. */
    private List<int[]> salesOf(byte[] row) {
        List<int[]> sales = new ArrayList<>();
        for (int i = 0; i + 1 < row.length && saleIs(row[i], row[i + 1]); i += 2) {
            sales.add(new int[] {row[i], row[i + 1]});
        }
        return sales;
    }

    /** The cells of those that are written. */
    private List<Integer> salesOn(Entry[] on, List<int[]> sales) {
        List<Integer> cells = new ArrayList<>();
        for (int[] sale : sales) {
            int cell = writeOn(on, sale[0], sale[1]);
            if (cell < 0) {
                break;
            }
            cells.add(cell);
        }
        return cells;
    }

    int sales(int shelf, int k) {
        if (!shelfIs(shelf) || k < -1) {
            return BAD;
        }
        if (bytesFault(shelf) != 0) {
            return bytesFault(shelf);
        }
        List<Integer> cells = salesOn(comb.clone(), salesOf((byte[]) shelves[shelf]));
        return k == -1 ? cells.size() : k < cells.size() ? cells.get(k) : NOT;
    }

    int balance(int shelf, int account) {
        if (!shelfIs(shelf) || !accountIs(account)) {
            return BAD;
        }
        if (bytesFault(shelf) != 0) {
            return bytesFault(shelf);
        }
        Entry[] on = comb.clone();
        salesOn(on, salesOf((byte[]) shelves[shelf]));
        return balance(on, account);
    }

    int winter(int n, int account) {
        if (n < 0 || n > 49 || !accountIs(account)) {
            return BAD;
        }
        Entry[] on = comb.clone();
        winterOn(on, n);
        return balance(on, account);
    }

    int outlasts(int account, int x) {
        if (!accountIs(account) || x < 1 || x > 99) {
            return BAD;
        }
        for (int n = 49; n >= 0; n--) {
            if (winter(n, account) >= x) {
                return n;
            }
        }
        return NOT;
    }

    private void orders(List<Integer> ahead, int size, List<List<Integer>> all) {
        if (ahead.size() == size) {
            all.add(new ArrayList<>(ahead));
        }
        for (int place = 0; place < size; place++) {
            if (!ahead.contains(place)) {
                ahead.add(place);
                orders(ahead, size, all);
                ahead.remove(ahead.size() - 1);
            }
        }
    }

    int order(int shelf, int an, int k) {
        if (!shelfIs(shelf) || an < 0 || !accountIs(an / 100) || an % 100 > 49 || k < -1) {
            return BAD;
        }
        if (bytesFault(shelf) != 0) {
            return bytesFault(shelf);
        }
        List<int[]> sales = salesOf((byte[]) shelves[shelf]);
        List<List<Integer>> all = new ArrayList<>();
        orders(new ArrayList<>(), Math.min(5, sales.size()), all);
        int best = -1;
        List<Integer> bestOrder = null;
        for (List<Integer> order : all) {
            List<int[]> told = new ArrayList<>(sales);
            for (int i = 0; i < order.size(); i++) {
                told.set(i, sales.get(order.get(i)));
            }
            Entry[] on = comb.clone();
            salesOn(on, told);
            winterOn(on, an % 100);
            if (balance(on, an / 100) > best) {
                best = balance(on, an / 100);
                bestOrder = order;
            }
        }
        return k == -1 ? best : k < bestOrder.size() ? bestOrder.get(k) : NOT;
    }

    int heat(int account) {
        if (account != -1 && !accountIs(account)) {
            return BAD;
        }
        Entry[] on = comb.clone();
        int turned = heatOn(on);
        return account == -1 ? turned : balance(on, account);
    }

    private boolean cmIs(int cm) {
        return cm >= 0 && cellIs(cm / 10) && cm % 10 <= 3;
    }

    int swarm(int cm, int account) {
        if (!cmIs(cm) || account != -1 && !accountIs(account)) {
            return BAD;
        }
        Entry[] on = comb.clone();
        int gone = swarmOn(on, cm / 10, cm % 10);
        return account == -1 ? gone : balance(on, account);
    }

    int least(int account, int x, int what) {
        if (!accountIs(account) || x < 1 || x > 37 || what < 0 || what > 2) {
            return BAD;
        }
        int[] best = null;
        for (int cell = 48; cell >= 0; cell--) {
            for (int m = 3; m >= 0; m--) {
                Entry[] on = comb.clone();
                int gone = swarmOn(on, cell, m);
                int loss = balance(comb, account) - balance(on, account);
                boolean better = best == null || loss < best[0] || loss == best[0] && m <= best[2];
                if (gone >= x && better) {
                    best = new int[] {loss, cell, m};
                }
            }
        }
        return best == null ? NOT : best[what];
    }

    // ---- dances, cells read, false entries

    private static long fraction(long above, long below, int part) {
        for (long by = 2; by <= 12; by++) {
            while (above % by == 0 && below % by == 0) {
                above /= by;
                below /= by;
            }
        }
        long one = above;
        long other = below;
        while (other != 0) {
            long rest = one % other;
            one = other;
            other = rest;
        }
        return part == 0 ? above / one : below / one;
    }

    private long weight(int h, int j) {
        long weight = 1;
        for (int bit = 1; bit <= 4; bit *= 2) {
            weight *= (h & bit) == (j & bit) ? 12 - flip : flip;
        }
        return weight;
    }

    long dance(int h, int j, int part) {
        if (h < 0 || h > 7 || j < 1 || j > 6 || part < 0 || part > 1) {
            return Long.MIN_VALUE;
        }
        long all = 0;
        for (int sum = 1; sum <= 6; sum++) {
            all += weight(h, sum);
        }
        return all == 0 ? NOT : fraction(weight(h, j), all, part);
    }

    long dances(int shelf, int j, int part) {
        if (!shelfIs(shelf) || part < 0 || part > 2 || part < 2 && (j < 1 || j > 6)) {
            return Long.MIN_VALUE;
        }
        if (!(shelves[shelf] instanceof byte[])) {
            return Long.MIN_VALUE;
        }
        long[] weights = {0, 1, 1, 1, 1, 1, 1};
        int count = 0;
        for (byte h : (byte[]) shelves[shelf]) {
            if (h < 0 || h > 7 || count == 4) {
                break;
            }
            for (int sum = 1; sum <= 6; sum++) {
                weights[sum] *= weight(h, sum);
            }
            count++;
        }
        long all = 0;
        int best = 1;
        for (int sum = 1; sum <= 6; sum++) {
            all += weights[sum];
            best = weights[sum] > weights[best] ? sum : best;
        }
        if (all == 0) {
            return NOT;
        }
        return part == 2 ? best : fraction(weights[j], all, part);
    }

    long right(int j, int part) {
        if (j < 1 || j > 6 || part < 0 || part > 1) {
            return Long.MIN_VALUE;
        }
        return fraction(weight(j, j), 1728, part);
    }

    private List<Integer> unread(int shelf) {
        List<Integer> cells = new ArrayList<>();
        for (int cell : (byte[]) shelves[shelf]) {
            if (cells.size() == 10 || !cellIs(cell) || comb[cell] == null || cells.contains(cell)) {
                break;
            }
            cells.add(cell);
        }
        return cells;
    }

    private List<Integer> sets(List<Integer> cells, int account, int x) {
        List<Integer> found = new ArrayList<>();
        for (int set = 0; set < 1 << cells.size(); set++) {
            int all = 0;
            for (int cell = 0; cell < 49; cell++) {
                int place = cells.indexOf(cell);
                boolean read = place < 0 && comb[cell] != null && comb[cell].account == account;
                boolean inSet = place >= 0 && (set >> place & 1) == 1;
                all += read || inSet ? comb[cell].sum : 0;
            }
            if (all == x) {
                found.add(set);
            }
        }
        return found;
    }

    int read(int shelf, int account, int x, int what) {
        if (!shelfIs(shelf) || !accountIs(account) || x < 0 || x > 299 || what < 0 || what > 2) {
            return BAD;
        }
        if (bytesFault(shelf) != 0) {
            return bytesFault(shelf);
        }
        List<Integer> found = sets(unread(shelf), account, x);
        if (what == 0) {
            return found.size();
        }
        if (found.isEmpty()) {
            return what == 1 ? 0 : NOT;
        }
        int sure = found.get(0);
        for (int set : found) {
            sure &= set;
        }
        return what == 1 ? sure : found.get(0);
    }

    int open(int shelf, int account) {
        if (!shelfIs(shelf) || !accountIs(account)) {
            return BAD;
        }
        if (bytesFault(shelf) != 0) {
            return bytesFault(shelf);
        }
        List<Integer> cells = unread(shelf);
        List<Integer> found = sets(cells, account, balance(comb, account));
        for (int many = 0; many <= cells.size(); many++) {
            for (int opened = 0; opened < 1 << cells.size(); opened++) {
                if (Integer.bitCount(opened) == many && left(found, cells, opened, account) == 1) {
                    return opened;
                }
            }
        }
        throw new IllegalStateException("to open all leaves one");
    }

    private int left(List<Integer> found, List<Integer> cells, int opened, int account) {
        int left = 0;
        for (int set : found) {
            boolean fits = true;
            for (int place = 0; place < cells.size(); place++) {
                boolean inSet = (set >> place & 1) == 1;
                boolean inTruth = comb[cells.get(place)].account == account;
                fits &= (opened >> place & 1) == 0 || inSet == inTruth;
            }
            left += fits ? 1 : 0;
        }
        return left;
    }

    long pass(int n, int what, int part) {
        if (n < 0 || n > 8 || what < 0 || what > 1 || part < 0 || part > 1) {
            return Long.MIN_VALUE;
        }
        long above = 1;
        long below = 1;
        for (int i = 0; i < n; i++) {
            above *= 12 - guards;
            below *= 12;
        }
        return what == 0 ? fraction(above, below, part) : fraction((long) n * (12 - guards), 12, part);
    }

    int mostFalse(int x) {
        if (x < 0 || x > 12) {
            return BAD;
        }
        for (int n = 8; n > 0; n--) {
            if (pass(n, 0, 0) * 12 >= x * pass(n, 0, 1)) {
                return n;
            }
        }
        return 0;
    }

    int judge(int shelf) {
        if (!shelfIs(shelf)) {
            return BAD;
        }
        if (bytesFault(shelf) != 0) {
            return bytesFault(shelf);
        }
        byte[] row = (byte[]) shelves[shelf];
        Entry[] on = comb.clone();
        for (int i = 0; i < row.length; i += 3) {
            if (i + 2 >= row.length || !saleIs(row[i], row[i + 1])) {
                return i / 3;
            }
            int cell = writeOn(on, row[i], row[i + 1]);
            if (cell < 0 || cell != row[i + 2]) {
                return i / 3;
            }
        }
        return NOT;
    }

    int drawn(int seed, int nw, int what) {
        if (nw < 0 || nw / 100 < 1 || nw / 100 > 60 || nw % 100 > 49 || what < 0 || what > 1) {
            return BAD;
        }
        if (doors.isEmpty()) {
            return STATE;
        }
        Entry[] on = comb.clone();
        int lost = 0;
        int z = seed;
        for (int i = 0; i < nw / 100; i++) {
            z = z * 1103515245 + 12345;
            int account = (z >>> 8) % doors.size();
            z = z * 1103515245 + 12345;
            lost += writeOn(on, account, 1 + (z >>> 8) % 6) < 0 ? 1 : 0;
        }
        winterOn(on, nw % 100);
        int all = 0;
        for (int account = 0; account < doors.size(); account++) {
            all += balance(on, account);
        }
        return what == 0 ? all : lost;
    }

    // ---- in deed

    int sale(int as) {
        if (!asIs(as)) {
            return BAD;
        }
        int cell = writeOn(comb, as / 10, as % 10);
        if (cell < 0) {
            return FULL;
        }
        led[0]++;
        led[1] += as % 10;
        return cell;
    }

    int eat(int n) {
        if (n < 0 || n > 49) {
            return BAD;
        }
        int eaten = winterOn(comb, n);
        led[2] += eaten;
        led[5]++;
        return eaten;
    }

    int run() {
        int turned = heatOn(comb);
        led[3] += turned;
        return turned;
    }

    int fly(int cm) {
        if (!cmIs(cm)) {
            return BAD;
        }
        int gone = swarmOn(comb, cm / 10, cm % 10);
        led[4] += gone;
        return gone;
    }

    int led(int what) {
        return what < 0 || what > 5 ? BAD : led[what];
    }

    int image() {
        imageComb = comb.clone();
        imageLed = led.clone();
        return led[0];
    }

    int back() {
        if (imageComb == null) {
            return STATE;
        }
        comb = imageComb.clone();
        led = imageLed.clone();
        return led[0];
    }

    int undo() {
        if (undos.isEmpty()) {
            return STATE;
        }
        Change change = undos.removeLast();
        tell(change.number, change.what, change.before);
        redos.addLast(change);
        return undos.size();
    }

    int redo() {
        if (redos.isEmpty()) {
            return STATE;
        }
        Change change = redos.removeLast();
        tell(change.number, change.what, change.after);
        undos.addLast(change);
        return redos.size();
    }

    // ---- acts, shelves

    int body(int kind) {
        if (kind < 0 || kind > 7) {
            return BAD;
        }
        if (bodies.size() == 50) {
            return FULL;
        }
        bodies.add(ModelHives.made(kind, bodies.size()));
        return bodies.size() - 1;
    }

    int act(int body, int act, int x) {
        trace = new ArrayList<>();
        if (body < 0 || body >= bodies.size() || act < 0 || act > 3) {
            return 0;
        }
        ModelHives.Hive hive = bodies.get(body);
        hive.trace = trace;
        switch (act) {
            case 0:
                return hive.writes(x);
            case 1:
                return hive.seals(x);
            case 2:
                return hive.dances(x);
            default:
                return hive.tells(x);
        }
    }

    int trace(int i) {
        return i < 0 || i >= Math.min(24, trace.size()) ? BAD : trace.get(i);
    }

    private boolean shelfIs(int shelf) {
        return shelf >= 0 && shelf <= 5;
    }

    int keep(int shelf, int body) {
        if (!shelfIs(shelf) || body < -1 || body >= bodies.size()) {
            return BAD;
        }
        shelves[shelf] = body == -1 ? null : bodies.get(body);
        return 1;
    }

    int row(int shelf, int sort, int n) {
        if (!shelfIs(shelf) || sort < 0 || sort > 4 || n > 60) {
            return BAD;
        }
        if (n < 0) {
            return -14;
        }
        switch (sort) {
            case 0:
                shelves[shelf] = new byte[n];
                break;
            case 1:
                shelves[shelf] = new short[n];
                break;
            case 2:
                shelves[shelf] = new int[n];
                break;
            case 3:
                shelves[shelf] = new long[n];
                break;
            default:
                shelves[shelf] = new boolean[n];
                break;
        }
        return 1;
    }

    int put(int shelf, int i, long v) {
        if (!shelfIs(shelf)) {
            return BAD;
        }
        Object row = shelves[shelf];
        try {
            if (row == null) {
                return -11;
            } else if (row instanceof byte[]) {
                ((byte[]) row)[i] = (byte) v;
            } else if (row instanceof short[]) {
                ((short[]) row)[i] = (short) v;
            } else if (row instanceof int[]) {
                ((int[]) row)[i] = (int) v;
            } else if (row instanceof long[]) {
                ((long[]) row)[i] = v;
            } else {
                ((boolean[]) row)[i] = v != 0;
            }
            return 1;
        } catch (ArrayIndexOutOfBoundsException e) {
            return -13;
        } catch (ClassCastException e) {
            return -12;
        }
    }

    long element(int shelf, int i) {
        if (!shelfIs(shelf)) {
            return Long.MIN_VALUE;
        }
        Object row = shelves[shelf];
        try {
            if (row instanceof byte[]) {
                return ((byte[]) row)[i];
            } else if (row instanceof short[]) {
                return ((short[]) row)[i];
            } else if (row instanceof int[]) {
                return ((int[]) row)[i];
            } else if (row instanceof long[]) {
                return ((long[]) row)[i];
            } else if (row instanceof boolean[]) {
                return ((boolean[]) row)[i] ? 1 : 0;
            }
            return Long.MIN_VALUE;
        } catch (ArrayIndexOutOfBoundsException e) {
            return Long.MIN_VALUE;
        }
    }

    int shift(int shelf, int i, int other, int j, int n) {
        if (!shelfIs(shelf) || !shelfIs(other)) {
            return BAD;
        }
        try {
            System.arraycopy(shelves[shelf], i, shelves[other], j, n);
            return n;
        } catch (NullPointerException e) {
            return -11;
        } catch (ArrayStoreException e) {
            return -12;
        } catch (IndexOutOfBoundsException e) {
            return -13;
        }
    }

    int taken(int shelf, int k) {
        if (!shelfIs(shelf) || k < 0 || k > 7) {
            return BAD;
        }
        if (shelves[shelf] == null) {
            return -11;
        }
        return ModelHives.kindClass(k).isInstance(shelves[shelf]) ? ((ModelHives.Hive) shelves[shelf]).kind : -12;
    }

    int count(int what) {
        int sealed = 0;
        for (int cell = 0; cell < 49; cell++) {
            sealed += sealed(comb, cell) ? 1 : 0;
        }
        int[] counts = {doors.size(), held(comb), sealed, tape.length(), undos.size(), bodies.size(), trace.size()};
        return what < 0 || what > 6 ? BAD : counts[what];
    }
}
