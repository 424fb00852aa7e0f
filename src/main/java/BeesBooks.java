import java.util.Arrays;

/** Bees keep the books: see README.md for how it is used, and the document for what it promises. */
public final class BeesBooks {
    public static final int BAD = -1, NOT = -2, FULL = -3, STATE = -5, VOID = -2000000000;

    private static final int NOTHING_THERE = -11, OTHER_KIND = -12, NO_PLACE = -13, BELOW_ZERO = -14;
    private static final long BAD_LONG = 0x8000000000000000L;
    private static final int CELLS = 49, SUMS = 6, SHELVES = 6, MOST_WINTER = 49, MOST_ABOUT = 3;
    private static final int LED_SALES = 0, LED_SUMS = 1, LED_EATEN = 2, LED_TURNED = 3, LED_SWARMED = 4;
    private static final int LED_YEARS = 5, LED_ALL = 6;

    private final Grid grid = new Grid();
    private final Settings settings = new Settings();
    private final Scribe scribe = new Scribe(grid, settings);
    private final Teller teller = new Teller(grid, scribe);
    private final Comb comb = new Comb(grid);
    private final Comb thought = new Comb(grid);
    private final Comb imageComb = new Comb(grid);
    private final int[] ledger = new int[LED_ALL];
    private final int[] imageLedger = new int[LED_ALL];
    private boolean imageKept = false;
    private final Reading reading = new Reading();
    private final Hives hives = new Hives();
    private final Shelf[] shelves = new Shelf[SHELVES];

    public BeesBooks() {
        for (int i = 0; i < SHELVES; i++) {
            shelves[i] = new Shelf();
        }
    }

    // ---- accounts, the comb

    public int account(int door) {
        return Grid.isCell(door) ? settings.addAccount(door) : BAD;
    }

    public int accounts(int shelf, int i, int n) {
        if (!isShelf(shelf) || n < 1 || n > Settings.MOST_ACCOUNTS) {
            return BAD;
        }
        Shelf row = shelves[shelf];
        if (row.holdsNothing()) {
            return 0;
        }
        if (row.bytesFault() != 0) {
            return OTHER_KIND;
        }
        int came = 0;
        while (came < n && row.hasPlace(i + came) && account(row.byteAt(i + came)) >= 0) {
            came++;
        }
        return came;
    }

    public int mend(int number, int what, int v) {
        if (!settings.isThere(number, what) || !Settings.mayBe(what, v)) {
            return BAD;
        }
        return settings.change(number, what, v);
    }

    public int of(int number, int what) {
        if (what == Settings.BALANCE) {
            return settings.isAccount(number) ? comb.balanceOf(number) : BAD;
        }
        return settings.isThere(number, what) ? settings.valueOf(number, what) : BAD;
    }

    public int cell(int cell, int what) {
        if (!Grid.isCell(cell) || what < 0 || what >= 4 + Grid.SIDES) {
            return BAD;
        }
        switch (what) {
            case 0:
                return comb.holds(cell) ? comb.ownerOf(cell) : NOT;
            case 1:
                return comb.sumOf(cell);
            case 2:
                return comb.isSealed(cell) ? 1 : 0;
            case 3:
                return grid.degree(cell);
            default:
                return grid.neighbour(cell, what - 4);
        }
    }

    public int far(int one, int other) {
        return Grid.isCell(one) && Grid.isCell(other) ? grid.distance(one, other) : BAD;
    }

    public int feed(int letter) {
        return letter < 0 || letter > 255 ? BAD : scribe.feedLetter(letter);
    }

    public int law() {
        int fault = scribe.takeLaw();
        return fault < 0 ? 1 : -100 - fault;
    }

    // ---- in thought

    public int where(int as) {
        return isSale(as) ? scribe.placeFor(comb, as / 10, as % 10) : BAD;
    }

    public int sales(int shelf, int k) {
        if (!isShelf(shelf) || k < -1) {
            return BAD;
        }
        int fault = shelves[shelf].bytesFault();
        if (fault != 0) {
            return fault;
        }
        int written = teller.tell(shelves[shelf], comb);
        return k == -1 ? written : teller.cellOf(k);
    }

    public int balance(int shelf, int account) {
        if (!isShelf(shelf) || !settings.isAccount(account)) {
            return BAD;
        }
        int fault = shelves[shelf].bytesFault();
        if (fault != 0) {
            return fault;
        }
        teller.tell(shelves[shelf], comb);
        return teller.balanceThen(account);
    }

    public int winter(int n, int account) {
        if (n < 0 || n > MOST_WINTER || !settings.isAccount(account)) {
            return BAD;
        }
        thought.become(comb);
        thought.eatCells(n);
        return thought.balanceOf(account);
    }

    public int outlasts(int account, int x) {
        if (!settings.isAccount(account) || x < 1 || x > 99) {
            return BAD;
        }
        thought.become(comb);
        int most = NOT;
        // A balance never grows in winter, so the first n that is too many ends it.
        for (int n = 0; n <= MOST_WINTER && thought.balanceOf(account) >= x; n++) {
            most = n;
            thought.eatCells(1);
        }
        return most;
    }

    public int order(int shelf, int an, int k) {
        if (!isShelf(shelf) || an < 0 || !settings.isAccount(an / 100) || an % 100 > MOST_WINTER || k < -1) {
            return BAD;
        }
        int fault = shelves[shelf].bytesFault();
        if (fault != 0) {
            return fault;
        }
        int greatest = teller.seekOrder(shelves[shelf], comb, an / 100, an % 100);
        return k == -1 ? greatest : teller.placeOf(k);
    }

    public int heat(int account) {
        if (account != -1 && !settings.isAccount(account)) {
            return BAD;
        }
        thought.become(comb);
        int turned = thought.heatUp();
        return account == -1 ? turned : thought.balanceOf(account);
    }

    public int swarm(int cm, int account) {
        if (!isSwarm(cm) || account != -1 && !settings.isAccount(account)) {
            return BAD;
        }
        thought.become(comb);
        int gone = thought.emptyAbout(cm / 10, cm % 10);
        return account == -1 ? gone : thought.balanceOf(account);
    }

    public int least(int account, int x, int what) {
        if (!settings.isAccount(account) || x < 1 || x > 37 || what < 0 || what > 2) {
            return BAD;
        }
        int least = NOT;
        int leastCell = NOT;
        int leastAbout = NOT;
        for (int m = 0; m <= MOST_ABOUT; m++) {
            for (int cell = 0; cell < CELLS; cell++) {
                int loss = comb.heldAbout(cell, m) >= x ? comb.lossAbout(cell, m, account) : NOT;
                if (loss >= 0 && (least < 0 || loss < least)) {
                    least = loss;
                    leastCell = cell;
                    leastAbout = m;
                }
            }
        }
        return what == 0 ? least : what == 1 ? leastCell : leastAbout;
    }

    // ---- dances, cells read, false entries

    public long dance(int h, int j, int part) {
        if (h < 0 || h > 7 || !isSum(j) || !isPart(part)) {
            return BAD_LONG;
        }
        long all = 0;
        for (int sum = 1; sum <= SUMS; sum++) {
            all += heardWeight(h, sum);
        }
        return all == 0 ? NOT : fraction(heardWeight(h, j), all, part);
    }

    public long dances(int shelf, int j, int part) {
        boolean likeliest = part == 2;
        if (!isShelf(shelf) || !likeliest && (!isSum(j) || !isPart(part))) {
            return BAD_LONG;
        }
        if (shelves[shelf].bytesFault() != 0) {
            return BAD_LONG;
        }
        long all = 0;
        int best = NOT;
        long bestWeight = 0;
        for (int sum = 1; sum <= SUMS; sum++) {
            long weight = rowWeight(shelves[shelf], sum);
            all += weight;
            if (weight > bestWeight) {
                best = sum;
                bestWeight = weight;
            }
        }
        if (all == 0) {
            return NOT;
        }
        return likeliest ? best : fraction(rowWeight(shelves[shelf], j), all, part);
    }

    public long right(int j, int part) {
        return isSum(j) && isPart(part) ? fraction(heardWeight(j, j), 12 * 12 * 12, part) : BAD_LONG;
    }

    public int read(int shelf, int account, int x, int what) {
        if (!isShelf(shelf) || !settings.isAccount(account) || x < 0 || x > 299 || what < 0 || what > 2) {
            return BAD;
        }
        int fault = shelves[shelf].bytesFault();
        if (fault != 0) {
            return fault;
        }
        reading.take(shelves[shelf], comb, account);
        return what == 0 ? reading.ways(x) : what == 1 ? reading.sure(x) : reading.leastSet(x);
    }

    public int open(int shelf, int account) {
        if (!isShelf(shelf) || !settings.isAccount(account)) {
            return BAD;
        }
        int fault = shelves[shelf].bytesFault();
        if (fault != 0) {
            return fault;
        }
        reading.take(shelves[shelf], comb, account);
        return reading.fewestToOpen();
    }

    public long pass(int n, int what, int part) {
        if (n < 0 || n > 8 || what < 0 || what > 1 || !isPart(part)) {
            return BAD_LONG;
        }
        int passing = 12 - settings.guards();
        return what == 0 ? fraction(power(passing, n), power(12, n), part) : fraction(n * passing, 12, part);
    }

    public int mostFalse(int x) {
        if (x < 0 || x > 12) {
            return BAD;
        }
        int most = NOT;
        for (int n = 0; n <= 8; n++) {
            if (power(12 - settings.guards(), n) * 12 >= x * power(12, n)) {
                most = n;
            }
        }
        return most;
    }

    public int judge(int shelf) {
        if (!isShelf(shelf)) {
            return BAD;
        }
        int fault = shelves[shelf].bytesFault();
        return fault != 0 ? fault : teller.firstFalse(shelves[shelf], comb);
    }

    public int drawn(int seed, int nw, int what) {
        if (nw < 100 || nw / 100 > 60 || nw % 100 > MOST_WINTER || what < 0 || what > 1) {
            return BAD;
        }
        int accounts = settings.accountCount();
        if (accounts < 1) {
            return STATE;
        }
        thought.become(comb);
        int z = seed;
        int lost = 0;
        for (int i = 0; i < nw / 100; i++) {
            z = drawnBehind(z);
            int account = (z >>> 8) % accounts;
            z = drawnBehind(z);
            int sum = 1 + (z >>> 8) % SUMS;
            if (scribe.write(thought, account, sum) < 0) {
                lost++;
            }
        }
        thought.eatCells(nw % 100);
        return what == 0 ? thought.allBalances() : lost;
    }

    // ---- in deed

    public int sale(int as) {
        if (!isSale(as)) {
            return BAD;
        }
        int cell = scribe.write(comb, as / 10, as % 10);
        if (cell < 0) {
            return FULL;
        }
        ledger[LED_SALES]++;
        ledger[LED_SUMS] += as % 10;
        return cell;
    }

    public int eat(int n) {
        if (n < 0 || n > MOST_WINTER) {
            return BAD;
        }
        int eaten = comb.eatCells(n);
        ledger[LED_EATEN] += eaten;
        ledger[LED_YEARS]++;
        return eaten;
    }

    public int run() {
        int turned = comb.heatUp();
        ledger[LED_TURNED] += turned;
        return turned;
    }

    public int fly(int cm) {
        if (!isSwarm(cm)) {
            return BAD;
        }
        int gone = comb.emptyAbout(cm / 10, cm % 10);
        ledger[LED_SWARMED] += gone;
        return gone;
    }

    public int led(int what) {
        return what < 0 || what >= LED_ALL ? BAD : ledger[what];
    }

    public int image() {
        imageComb.become(comb);
        System.arraycopy(ledger, 0, imageLedger, 0, LED_ALL);
        imageKept = true;
        return ledger[LED_SALES];
    }

    public int back() {
        if (!imageKept) {
            return STATE;
        }
        comb.become(imageComb);
        System.arraycopy(imageLedger, 0, ledger, 0, LED_ALL);
        return ledger[LED_SALES];
    }

    public int undo() {
        return settings.takeBack();
    }

    public int redo() {
        return settings.doAgain();
    }

    // ---- acts, shelves

    public int body(int kind) {
        return Hives.isKind(kind) ? hives.add(kind) : BAD;
    }

    public int act(int body, int act, int x) {
        return hives.perform(body, act, x);
    }

    public int trace(int i) {
        return hives.traced(i);
    }

    public int keep(int shelf, int body) {
        if (!isShelf(shelf) || body != -1 && !hives.isBody(body)) {
            return BAD;
        }
        if (body == -1) {
            shelves[shelf].holdNothing();
        } else {
            shelves[shelf].holdHive(body);
        }
        return 1;
    }

    public int row(int shelf, int sort, int n) {
        if (!isShelf(shelf) || !Shelf.isSort(sort) || n > Shelf.MOST_ELEMENTS) {
            return BAD;
        }
        if (n < 0) {
            return BELOW_ZERO;
        }
        shelves[shelf].holdRow(sort, n);
        return 1;
    }

    public int put(int shelf, int i, long v) {
        if (!isShelf(shelf)) {
            return BAD;
        }
        int fault = shelves[shelf].placeFault(i);
        if (fault != 0) {
            return fault;
        }
        shelves[shelf].putIn(i, v);
        return 1;
    }

    public long element(int shelf, int i) {
        return isShelf(shelf) && shelves[shelf].placeFault(i) == 0 ? shelves[shelf].elementAt(i) : BAD_LONG;
    }

    public int shift(int shelf, int i, int other, int j, int n) {
        if (!isShelf(shelf) || !isShelf(other)) {
            return BAD;
        }
        Shelf from = shelves[shelf];
        Shelf to = shelves[other];
        if (from.holdsNothing() || to.holdsNothing()) {
            return NOTHING_THERE;
        }
        if (!from.isAlike(to)) {
            return OTHER_KIND;
        }
        if (!from.hasStretch(i, n) || !to.hasStretch(j, n)) {
            return NO_PLACE;
        }
        to.takeFrom(from, i, j, n);
        return n;
    }

    public int taken(int shelf, int k) {
        if (!isShelf(shelf) || !Hives.isKind(k)) {
            return BAD;
        }
        if (shelves[shelf].holdsNothing()) {
            return NOTHING_THERE;
        }
        int kind = hives.kindOf(shelves[shelf].hive());
        return Hives.isUnder(kind, k) ? kind : OTHER_KIND;
    }

    public int count(int what) {
        switch (what) {
            case 0:
                return settings.accountCount();
            case 1:
                return comb.heldCount();
            case 2:
                return comb.sealedCount();
            case 3:
                return scribe.tapeLength();
            case 4:
                return settings.undoable();
            case 5:
                return hives.bodyCount();
            case 6:
                return hives.ranCount();
            default:
                return BAD;
        }
    }

    // ---- what several calls share

    private static boolean isShelf(int shelf) {
        return shelf >= 0 && shelf < SHELVES;
    }

    private static boolean isSum(int sum) {
        return sum >= 1 && sum <= SUMS;
    }

    private static boolean isPart(int part) {
        return part == 0 || part == 1;
    }

    private boolean isSale(int as) {
        return as >= 0 && settings.isAccount(as / 10) && isSum(as % 10);
    }

    private static boolean isSwarm(int cm) {
        return cm >= 0 && Grid.isCell(cm / 10) && cm % 10 <= MOST_ABOUT;
    }

    private static int drawnBehind(int z) {
        return z * 1103515245 + 12345;
    }

    /** Of 12 * 12 * 12: how often h is heard where the sum was danced. */
    private long heardWeight(int h, int sum) {
        int turned = Integer.bitCount((h ^ sum) & 7);
        return power(settings.flip(), turned) * power(12 - settings.flip(), 3 - turned);
    }

    private long rowWeight(Shelf row, int sum) {
        long weight = 1;
        for (int i = 0; i < 4 && row.hasPlace(i); i++) {
            int heard = row.byteAt(i);
            if (heard < 0 || heard > 7) {
                break;
            }
            weight *= heardWeight(heard, sum);
        }
        return weight;
    }

    private static long power(int base, int times) {
        long result = 1;
        for (int i = 0; i < times; i++) {
            result *= base;
        }
        return result;
    }

    private static long fraction(long above, long below, int part) {
        long one = above;
        long other = below;
        for (int i = 0; i < 200 && other != 0; i++) {
            long rest = one % other;
            one = other;
            other = rest;
        }
        if (one == 0) {
            return 0;
        }
        return (part == 0 ? above : below) / one;
    }

    /** Which cells lie beside which, and how far apart cells are. */
    private static final class Grid {
        static final int SIDES = 6;
        private static final int WIDTH = 7;

        private final int[] neighbours = new int[CELLS * SIDES];
        private final int[] degrees = new int[CELLS];
        private final int[] distances = new int[CELLS * CELLS];

        Grid() {
            for (int cell = 0; cell < CELLS; cell++) {
                findNeighbours(cell);
            }
            int[] queue = new int[CELLS];
            for (int cell = 0; cell < CELLS; cell++) {
                measureFrom(cell, queue);
            }
        }

        static boolean isCell(int cell) {
            return cell >= 0 && cell < CELLS;
        }

        static int lineOf(int cell) {
            return cell / WIDTH;
        }

        /** In the order of their numbers, as heat and cell() need them. */
        private void findNeighbours(int cell) {
            int r = cell / WIDTH;
            int c = cell % WIDTH;
            int left = r % 2 == 0 ? c - 1 : c;
            addNeighbour(cell, r - 1, left);
            addNeighbour(cell, r - 1, left + 1);
            addNeighbour(cell, r, c - 1);
            addNeighbour(cell, r, c + 1);
            addNeighbour(cell, r + 1, left);
            addNeighbour(cell, r + 1, left + 1);
        }

        private void addNeighbour(int cell, int r, int c) {
            if (r >= 0 && r < WIDTH && c >= 0 && c < WIDTH && degrees[cell] < SIDES) {
                neighbours[cell * SIDES + degrees[cell]] = r * WIDTH + c;
                degrees[cell]++;
            }
        }

        private void measureFrom(int start, int[] queue) {
            for (int cell = 0; cell < CELLS; cell++) {
                distances[start * CELLS + cell] = cell == start ? 0 : -1;
            }
            queue[0] = start;
            int queued = 1;
            for (int next = 0; next < queued && next < CELLS; next++) {
                int cell = queue[next];
                for (int k = 0; k < degrees[cell]; k++) {
                    int other = neighbours[cell * SIDES + k];
                    if (distances[start * CELLS + other] < 0 && queued < CELLS) {
                        distances[start * CELLS + other] = distances[start * CELLS + cell] + 1;
                        queue[queued] = other;
                        queued++;
                    }
                }
            }
        }

        int degree(int cell) {
            return isCell(cell) ? degrees[cell] : 0;
        }

        int neighbour(int cell, int k) {
            return isCell(cell) && k >= 0 && k < degrees[cell] ? neighbours[cell * SIDES + k] : NOT;
        }

        int distance(int one, int other) {
            return isCell(one) && isCell(other) ? distances[one * CELLS + other] : 0;
        }
    }

    /** What the cells hold, in deed or in thought. */
    private static final class Comb {
        private static final int NOBODY = -1;

        private final Grid grid;
        private final int[] owners = new int[CELLS];
        private final int[] sums = new int[CELLS];
        /** How many neighbours hold nothing: kept up, since laws and seals ask for it most. */
        private final int[] emptySides = new int[CELLS];
        private int held = 0;

        Comb(Grid grid) {
            this.grid = grid;
            for (int cell = 0; cell < CELLS; cell++) {
                owners[cell] = NOBODY;
                emptySides[cell] = grid.degree(cell);
            }
        }

        void become(Comb other) {
            System.arraycopy(other.owners, 0, owners, 0, CELLS);
            System.arraycopy(other.sums, 0, sums, 0, CELLS);
            System.arraycopy(other.emptySides, 0, emptySides, 0, CELLS);
            held = other.held;
        }

        boolean holds(int cell) {
            return Grid.isCell(cell) && owners[cell] != NOBODY;
        }

        int ownerOf(int cell) {
            return Grid.isCell(cell) ? owners[cell] : NOBODY;
        }

        int sumOf(int cell) {
            return Grid.isCell(cell) ? sums[cell] : 0;
        }

        int fullSidesOf(int cell) {
            return Grid.isCell(cell) ? grid.degree(cell) - emptySides[cell] : 0;
        }

        boolean isSealed(int cell) {
            return Grid.isCell(cell) && owners[cell] != NOBODY && emptySides[cell] == 0;
        }

        int heldCount() {
            return held;
        }

        int sealedCount() {
            int sealed = 0;
            for (int cell = 0; cell < CELLS; cell++) {
                if (isSealed(cell)) {
                    sealed++;
                }
            }
            return sealed;
        }

        int balanceOf(int account) {
            int balance = 0;
            for (int cell = 0; cell < CELLS; cell++) {
                if (owners[cell] == account) {
                    balance += sums[cell];
                }
            }
            return balance;
        }

        int allBalances() {
            int all = 0;
            for (int cell = 0; cell < CELLS; cell++) {
                all += sums[cell];
            }
            return all;
        }

        int sidesOwned(int cell, int account) {
            int owned = 0;
            for (int k = 0; k < grid.degree(cell); k++) {
                if (ownerOf(grid.neighbour(cell, k)) == account) {
                    owned++;
                }
            }
            return owned;
        }

        void fill(int cell, int account, int sum) {
            if (Grid.isCell(cell) && !holds(cell)) {
                owners[cell] = account;
                sums[cell] = sum;
                countSides(cell, 1);
            }
        }

        void empty(int cell) {
            if (holds(cell)) {
                owners[cell] = NOBODY;
                sums[cell] = 0;
                countSides(cell, -1);
            }
        }

        private void countSides(int cell, int more) {
            held += more;
            for (int k = 0; k < grid.degree(cell); k++) {
                int other = grid.neighbour(cell, k);
                if (Grid.isCell(other)) {
                    emptySides[other] -= more;
                }
            }
        }

        /** Eats n cells, or as many as there are. */
        int eatCells(int n) {
            int eaten = 0;
            while (eaten < n && held > 0) {
                empty(nextEaten());
                eaten++;
            }
            return eaten;
        }

        private int nextEaten() {
            boolean spared = sealedCount() < held;
            int next = NOT;
            for (int cell = 0; cell < CELLS; cell++) {
                boolean edible = holds(cell) && !(spared && isSealed(cell));
                if (edible && (next < 0 || sums[cell] <= sums[next])) {
                    next = cell;
                }
            }
            return next;
        }

        int heatUp() {
            int turned = 0;
            for (int cell = 0; cell < CELLS; cell++) {
                for (int k = 0; k < grid.degree(cell); k++) {
                    int other = grid.neighbour(cell, k);
                    if (other > cell && runTogether(cell, other)) {
                        turned++;
                    }
                }
            }
            return turned;
        }

        private boolean runTogether(int cell, int other) {
            if (!holds(cell) || !holds(other) || isSealed(cell) || isSealed(other)) {
                return false;
            }
            if (owners[cell] == owners[other]) {
                return false;
            }
            if (sums[cell] < sums[other]) {
                owners[cell] = owners[other];
            } else {
                owners[other] = owners[cell];
            }
            return true;
        }

        int emptyAbout(int centre, int m) {
            int gone = 0;
            for (int cell = 0; cell < CELLS; cell++) {
                if (holds(cell) && grid.distance(centre, cell) <= m) {
                    empty(cell);
                    gone++;
                }
            }
            return gone;
        }

        int heldAbout(int centre, int m) {
            int about = 0;
            for (int cell = 0; cell < CELLS; cell++) {
                if (holds(cell) && grid.distance(centre, cell) <= m) {
                    about++;
                }
            }
            return about;
        }

        int lossAbout(int centre, int m, int account) {
            int loss = 0;
            for (int cell = 0; cell < CELLS; cell++) {
                if (owners[cell] == account && grid.distance(centre, cell) <= m) {
                    loss += sums[cell];
                }
            }
            return loss;
        }
    }

    /** A law as codes in the order in which they are worked out, so that a rank needs no recursion. */
    private static final class Law {
        static final int MOST_LETTERS = 120;
        static final int NUMBER = 1, NAME = 2, NEGATE = 3;
        /** The text of 120 letters with the most lines has 60, and a 61st that lacks. */
        private static final int MOST_LINES = 61;
        private static final int NAMES = 6;

        private final int[] codes = new int[MOST_LETTERS];
        private final int[] values = new int[MOST_LETTERS];
        private int length = 0;
        private final int[] starts = new int[MOST_LINES];
        private final int[] answers = new int[MOST_LINES];
        private final int[] ends = new int[MOST_LINES];
        private int lines = 0;
        private int start = 0;
        private int answer = 0;
        private final int[] names = new int[NAMES];
        private final int[] stack = new int[MOST_LETTERS];

        void clear() {
            length = 0;
            lines = 0;
            start = 0;
            answer = 0;
        }

        void add(int code, int value) {
            if (length < MOST_LETTERS) {
                codes[length] = code;
                values[length] = value;
                length++;
            }
        }

        void endCondition() {
            answer = length;
        }

        void endLine() {
            if (lines < MOST_LINES) {
                starts[lines] = start;
                answers[lines] = answer;
                ends[lines] = length;
                lines++;
            }
            start = length;
            answer = length;
        }

        boolean isTold() {
            return lines > 0;
        }

        int rank(int d, int n, int o, int s, int k, int r) {
            names[0] = d;
            names[1] = n;
            names[2] = o;
            names[3] = s;
            names[4] = k;
            names[5] = r;
            for (int line = 0; line < lines; line++) {
                boolean unconditional = starts[line] == answers[line];
                if (unconditional || workedOut(starts[line], answers[line]) != 0) {
                    return workedOut(answers[line], ends[line]);
                }
            }
            return 0;
        }

        private int workedOut(int from, int to) {
            int top = 0;
            for (int at = from; at < to && at < MOST_LETTERS; at++) {
                int code = codes[at];
                int value = values[at];
                if (code == NUMBER && top < MOST_LETTERS) {
                    stack[top] = value;
                    top++;
                } else if (code == NAME && top < MOST_LETTERS && value >= 0 && value < NAMES) {
                    stack[top] = names[value];
                    top++;
                } else if (code == NEGATE && top >= 1) {
                    stack[top - 1] = -stack[top - 1];
                } else if (code == '!' && top >= 1) {
                    stack[top - 1] = stack[top - 1] == 0 ? 1 : 0;
                } else if (top >= 2) {
                    stack[top - 2] = joined(code, stack[top - 2], stack[top - 1]);
                    top--;
                }
            }
            return top >= 1 ? stack[top - 1] : 0;
        }

        private static int joined(int sign, int one, int other) {
            switch (sign) {
                case '|':
                    return one != 0 || other != 0 ? 1 : 0;
                case '&':
                    return one != 0 && other != 0 ? 1 : 0;
                case '<':
                    return one < other ? 1 : 0;
                case '=':
                    return one == other ? 1 : 0;
                case '>':
                    return one > other ? 1 : 0;
                case '+':
                    return one + other;
                case '-':
                    return one - other;
                case '*':
                    return one * other;
                case '/':
                    return other == 0 ? 0 : one / other;
                case '%':
                    return other == 0 ? 0 : one % other;
                default:
                    return 0;
            }
        }
    }

    /** The tape, and the reading of its text: signs wait on a stack until what they join is there. */
    private static final class LawReader {
        private static final String NAMES = "dnoskr";
        private static final int MOST_OPEN = 6, MOST_DIGITS = 4;
        private static final int OR = 1, COMPARING = 3;

        private final int[] tape = new int[Law.MOST_LETTERS];
        private int length = 0;
        private final int[] waiting = new int[Law.MOST_LETTERS];
        private int waits = 0;
        private int opened = 0;
        private boolean wantsOperand = true;
        private boolean hasCondition = false;

        int tapeLength() {
            return length;
        }

        int feedLetter(int letter) {
            if (length >= Law.MOST_LETTERS) {
                return FULL;
            }
            tape[length] = letter;
            length++;
            return length;
        }

        void clearTape() {
            length = 0;
        }

        /** The fault's place, or -1 when the draft holds the whole text. */
        int readInto(Law draft) {
            draft.clear();
            waits = 0;
            opened = 0;
            wantsOperand = true;
            hasCondition = false;
            int at = 0;
            while (at < length) {
                int bytes = wantsOperand ? operandAt(at, draft) : signAt(at, draft);
                if (bytes < 1) {
                    return at;
                }
                at += bytes;
            }
            if (wantsOperand || opened > 0) {
                return length;
            }
            release(OR, draft);
            draft.endLine();
            return -1;
        }

        private int letterAt(int at) {
            return at >= 0 && at < length ? tape[at] : -1;
        }

        private static boolean isDigit(int letter) {
            return letter >= '0' && letter <= '9';
        }

        private int operandAt(int at, Law draft) {
            int letter = letterAt(at);
            int name = NAMES.indexOf((char) letter);
            if (isDigit(letter)) {
                return numberAt(at, draft);
            }
            if (name >= 0) {
                draft.add(Law.NAME, name);
                endOperand(draft);
                return 1;
            }
            if ((letter == '(' || letter == '!' || letter == '-') && opened < MOST_OPEN) {
                opened++;
                await(letter == '-' ? Law.NEGATE : letter);
                return 1;
            }
            return 0;
        }

        private int numberAt(int at, Law draft) {
            int number = 0;
            int digits = 0;
            while (digits < MOST_DIGITS && isDigit(letterAt(at + digits))) {
                number = number * 10 + letterAt(at + digits) - '0';
                digits++;
            }
            draft.add(Law.NUMBER, number);
            endOperand(draft);
            return digits;
        }

        /** An operand ends what stood ahead of it: ! and - are open no longer. */
        private void endOperand(Law draft) {
            wantsOperand = false;
            while (waits > 0 && (waiting[waits - 1] == '!' || waiting[waits - 1] == Law.NEGATE)) {
                waits--;
                draft.add(waiting[waits], 0);
                opened--;
            }
        }

        private int signAt(int at, Law draft) {
            int letter = letterAt(at);
            if (strengthOf(letter) > 0) {
                return joinAt(letter, draft) ? 1 : 0;
            }
            if (letter == ')' && opened > 0) {
                release(OR, draft);
                waits--;
                opened--;
                endOperand(draft);
                return 1;
            }
            if (letter == '?' && opened == 0 && !hasCondition) {
                release(OR, draft);
                draft.endCondition();
                hasCondition = true;
                wantsOperand = true;
                return 1;
            }
            if (letter == ';' && opened == 0) {
                release(OR, draft);
                draft.endLine();
                hasCondition = false;
                wantsOperand = true;
                return 1;
            }
            return 0;
        }

        private boolean joinAt(int sign, Law draft) {
            int strength = strengthOf(sign);
            release(strength == COMPARING ? COMPARING + 1 : strength, draft);
            if (strength == COMPARING && waits > 0 && strengthOf(waiting[waits - 1]) == COMPARING) {
                return false;
            }
            await(sign);
            wantsOperand = true;
            return true;
        }

        private void await(int sign) {
            if (waits < Law.MOST_LETTERS) {
                waiting[waits] = sign;
                waits++;
            }
        }

        private void release(int weakest, Law draft) {
            while (waits > 0 && strengthOf(waiting[waits - 1]) >= weakest) {
                waits--;
                draft.add(waiting[waits], 0);
            }
        }

        /** How tightly a sign joins; 0 for what joins nothing. */
        private static int strengthOf(int sign) {
            switch (sign) {
                case '|':
                    return OR;
                case '&':
                    return 2;
                case '<':
                case '=':
                case '>':
                    return COMPARING;
                case '+':
                case '-':
                    return 4;
                case '*':
                case '/':
                case '%':
                    return 5;
                default:
                    return 0;
            }
        }
    }

    /** Writes sales into the cell that ranks first. */
    private static final class Scribe {
        private final Grid grid;
        private final Settings settings;
        private final LawReader reader = new LawReader();
        private Law ruling = new Law();
        private Law draft = new Law();

        Scribe(Grid grid, Settings settings) {
            this.grid = grid;
            this.settings = settings;
        }

        int tapeLength() {
            return reader.tapeLength();
        }

        int feedLetter(int letter) {
            return reader.feedLetter(letter);
        }

        /** A law with a fault leaves the one that ruled before. */
        int takeLaw() {
            int fault = reader.readInto(draft);
            reader.clearTape();
            if (fault < 0) {
                Law former = ruling;
                ruling = draft;
                draft = former;
            }
            return fault;
        }

        int placeFor(Comb comb, int account, int sum) {
            int door = settings.doorOf(account);
            int place = NOT;
            int best = 0;
            for (int cell = 0; cell < CELLS; cell++) {
                if (comb.holds(cell)) {
                    continue;
                }
                int d = grid.distance(cell, door);
                int rank = -d;
                if (ruling.isTold()) {
                    int full = comb.fullSidesOf(cell);
                    int owned = comb.sidesOwned(cell, account);
                    rank = ruling.rank(d, full, owned, sum, account, Grid.lineOf(cell));
                }
                if (place < 0 || rank > best) {
                    place = cell;
                    best = rank;
                }
            }
            return place;
        }

        int write(Comb comb, int account, int sum) {
            int cell = placeFor(comb, account, sum);
            if (cell >= 0) {
                comb.fill(cell, account, sum);
            }
            return cell;
        }

        boolean isSale(int account, int sum) {
            return settings.isAccount(account) && isSum(sum);
        }
    }

    /** Tells whole rows in thought: sales, their orders, entries to be judged. */
    private static final class Teller {
        private static final int MOST_TWOS = Shelf.MOST_ELEMENTS / 2, MOST_THREES = Shelf.MOST_ELEMENTS / 3;
        private static final int MOST_ORDERED = 5, MOST_ORDERS = 120;

        private final Scribe scribe;
        private final Comb thought;
        private final int[] cells = new int[MOST_TWOS];
        private int told = 0;
        private final int[] places = new int[MOST_ORDERED];
        private final int[] bestPlaces = new int[MOST_ORDERED];
        private int sales = 0;
        private int ordered = 0;

        Teller(Grid grid, Scribe scribe) {
            this.scribe = scribe;
            this.thought = new Comb(grid);
        }

        int tell(Shelf row, Comb comb) {
            thought.become(comb);
            told = 0;
            for (int i = 0; i < MOST_TWOS && isSaleAt(row, i); i++) {
                int cell = scribe.write(thought, row.byteAt(2 * i), row.byteAt(2 * i + 1));
                if (cell < 0) {
                    break;
                }
                cells[told] = cell;
                told++;
            }
            return told;
        }

        /** Whether the i-th two tells an account and a sum; a sale that will find no cell is one, too. */
        private boolean isSaleAt(Shelf row, int i) {
            return row.hasPlace(2 * i + 1) && scribe.isSale(row.byteAt(2 * i), row.byteAt(2 * i + 1));
        }

        int cellOf(int k) {
            return k >= 0 && k < told ? cells[k] : NOT;
        }

        int balanceThen(int account) {
            return thought.balanceOf(account);
        }

        int seekOrder(Shelf row, Comb comb, int account, int n) {
            sales = salesIn(row);
            ordered = Math.min(sales, MOST_ORDERED);
            for (int i = 0; i < ordered; i++) {
                places[i] = i;
            }
            int greatest = NOT;
            boolean more = true;
            for (int i = 0; i < MOST_ORDERS && more; i++) {
                int balance = outcome(row, comb, account, n);
                if (balance > greatest) {
                    greatest = balance;
                    System.arraycopy(places, 0, bestPlaces, 0, ordered);
                }
                more = nextOrder();
            }
            return greatest;
        }

        int placeOf(int k) {
            return k >= 0 && k < ordered ? bestPlaces[k] : NOT;
        }

        private int salesIn(Shelf row) {
            int count = 0;
            while (count < MOST_TWOS && isSaleAt(row, count)) {
                count++;
            }
            return count;
        }

        /** Which sales find no cell depends on the order in which they are told. */
        private int outcome(Shelf row, Comb comb, int account, int n) {
            thought.become(comb);
            boolean written = true;
            for (int i = 0; i < sales && written; i++) {
                int place = i < ordered ? places[i] : i;
                written = scribe.write(thought, row.byteAt(2 * place), row.byteAt(2 * place + 1)) >= 0;
            }
            thought.eatCells(n);
            return thought.balanceOf(account);
        }

        /** The next order by places, so that of like outcomes the first one stays. */
        private boolean nextOrder() {
            int rising = ordered - 2;
            while (rising >= 0 && places[rising] > places[rising + 1]) {
                rising--;
            }
            if (rising < 0) {
                return false;
            }
            int greater = ordered - 1;
            while (greater > rising && places[greater] < places[rising]) {
                greater--;
            }
            swapPlaces(rising, greater);
            int left = rising + 1;
            for (int right = ordered - 1; left < right; right--) {
                swapPlaces(left, right);
                left++;
            }
            return true;
        }

        private void swapPlaces(int one, int other) {
            int place = places[one];
            places[one] = places[other];
            places[other] = place;
        }

        int firstFalse(Shelf row, Comb comb) {
            thought.become(comb);
            for (int i = 0; i < MOST_THREES && row.hasPlace(3 * i); i++) {
                int account = row.byteAt(3 * i);
                int sum = row.byteAt(3 * i + 1);
                boolean sale = row.hasPlace(3 * i + 2) && scribe.isSale(account, sum);
                int cell = sale ? scribe.write(thought, account, sum) : NOT;
                if (cell < 0 || cell != row.byteAt(3 * i + 2)) {
                    return i;
                }
            }
            return NOT;
        }
    }

    /** Doors, guards, flip, and the changes of them that can be undone. */
    private static final class Settings {
        static final int MOST_ACCOUNTS = 6;
        static final int DOOR = 0, GUARDS = 1, FLIP = 2, BALANCE = 3;
        private static final int MOST_KEPT = 40;

        /** The doors, then guards and flip: one row, so that a change is a place and two numbers. */
        private final int[] values = new int[MOST_ACCOUNTS + 2];
        private int accounts = 0;
        private final int[] places = new int[MOST_KEPT];
        private final int[] befores = new int[MOST_KEPT];
        private final int[] afters = new int[MOST_KEPT];
        private int done = 0;
        private int kept = 0;

        Settings() {
            values[placeOf(0, GUARDS)] = 6;
            values[placeOf(0, FLIP)] = 1;
        }

        private static int placeOf(int number, int what) {
            return what == DOOR ? number : MOST_ACCOUNTS - 1 + what;
        }

        boolean isAccount(int number) {
            return number >= 0 && number < accounts;
        }

        int accountCount() {
            return accounts;
        }

        int addAccount(int door) {
            if (accounts >= MOST_ACCOUNTS) {
                return FULL;
            }
            values[accounts] = door;
            accounts++;
            return accounts - 1;
        }

        boolean isThere(int number, int what) {
            return what == DOOR ? isAccount(number) : (what == GUARDS || what == FLIP) && number == 0;
        }

        static boolean mayBe(int what, int v) {
            int most = what == DOOR ? CELLS - 1 : what == GUARDS ? 12 : 6;
            return v >= 0 && v <= most;
        }

        int valueOf(int number, int what) {
            return isThere(number, what) ? values[placeOf(number, what)] : BAD;
        }

        int doorOf(int account) {
            return isAccount(account) ? values[account] : NOT;
        }

        int guards() {
            return valueOf(0, GUARDS);
        }

        int flip() {
            return valueOf(0, FLIP);
        }

        int change(int number, int what, int v) {
            int before = valueOf(number, what);
            if (isThere(number, what) && before != v) {
                remember(placeOf(number, what), before, v);
                values[placeOf(number, what)] = v;
            }
            return before;
        }

        private void remember(int place, int before, int after) {
            if (done >= MOST_KEPT) {
                System.arraycopy(places, 1, places, 0, MOST_KEPT - 1);
                System.arraycopy(befores, 1, befores, 0, MOST_KEPT - 1);
                System.arraycopy(afters, 1, afters, 0, MOST_KEPT - 1);
                done = MOST_KEPT - 1;
            }
            places[done] = place;
            befores[done] = before;
            afters[done] = after;
            done++;
            kept = done;
        }

        int undoable() {
            return done;
        }

        int takeBack() {
            if (done <= 0) {
                return STATE;
            }
            done--;
            values[places[done]] = befores[done];
            return done;
        }

        int doAgain() {
            if (done >= kept) {
                return STATE;
            }
            values[places[done]] = afters[done];
            done++;
            return kept - done;
        }
    }

    /** What one shelf holds; its elements are made once and used again by each row. */
    private static final class Shelf {
        static final int MOST_ELEMENTS = 60;
        private static final int BYTES = 0, SHORTS = 1, INTS = 2, LONGS = 3, BOOLEANS = 4;
        private static final int NOTHING = 0, HIVE = 1, ROW = 2;

        private int holding = NOTHING;
        private int hive = NOT;
        private int sort = BYTES;
        private int length = 0;
        private final long[] elements = new long[MOST_ELEMENTS];

        static boolean isSort(int sort) {
            return sort >= BYTES && sort <= BOOLEANS;
        }

        void holdNothing() {
            holding = NOTHING;
        }

        void holdHive(int body) {
            holding = HIVE;
            hive = body;
        }

        void holdRow(int newSort, int newLength) {
            holding = ROW;
            sort = newSort;
            length = newLength;
            Arrays.fill(elements, 0L);
        }

        boolean holdsNothing() {
            return holding == NOTHING;
        }

        /** The body that is held; NOT, if it is no hive. */
        int hive() {
            return holding == HIVE ? hive : NOT;
        }

        int bytesFault() {
            return holding == NOTHING ? NOTHING_THERE : holding == ROW && sort == BYTES ? 0 : OTHER_KIND;
        }

        int placeFault(int i) {
            if (holding != ROW) {
                return holding == NOTHING ? NOTHING_THERE : OTHER_KIND;
            }
            return hasPlace(i) ? 0 : NO_PLACE;
        }

        boolean isAlike(Shelf other) {
            return holding == ROW && other.holding == ROW && sort == other.sort;
        }

        boolean hasPlace(int i) {
            return holding == ROW && i >= 0 && i < length;
        }

        boolean hasStretch(int i, int n) {
            return holding == ROW && i >= 0 && n >= 0 && i <= length && n <= length - i;
        }

        long elementAt(int i) {
            return hasPlace(i) ? elements[i] : 0;
        }

        int byteAt(int i) {
            return (int) elementAt(i);
        }

        void putIn(int i, long v) {
            if (hasPlace(i)) {
                elements[i] = lowestBits(v);
            }
        }

        private long lowestBits(long v) {
            switch (sort) {
                case BYTES:
                    return (byte) v;
                case SHORTS:
                    return (short) v;
                case INTS:
                    return (int) v;
                case LONGS:
                    return v;
                default:
                    return v != 0 ? 1 : 0;
            }
        }

        void takeFrom(Shelf from, int i, int j, int n) {
            if (from.hasStretch(i, n) && hasStretch(j, n)) {
                System.arraycopy(from.elements, i, elements, j, n);
            }
        }
    }

    /** Cells whose accounts cannot be read, and which sets of them an account may have. */
    private static final class Reading {
        private static final int MOST_CELLS = 10;

        private final int[] cells = new int[MOST_CELLS];
        private int count = 0;
        private final int[] setSums = new int[1 << MOST_CELLS];
        private int sets = 1;
        private int readSum = 0;
        private int truth = 0;

        void take(Shelf row, Comb comb, int account) {
            count = 0;
            sets = 1;
            truth = 0;
            setSums[0] = 0;
            readSum = comb.balanceOf(account);
            for (int i = 0; i < MOST_CELLS && row.hasPlace(i) && isUnread(row.byteAt(i), comb); i++) {
                addCell(row.byteAt(i), comb, account);
            }
        }

        private boolean isUnread(int cell, Comb comb) {
            boolean before = false;
            for (int i = 0; i < count; i++) {
                before |= cells[i] == cell;
            }
            return comb.holds(cell) && !before;
        }

        private void addCell(int cell, Comb comb, int account) {
            int sum = comb.sumOf(cell);
            for (int set = 0; set < sets; set++) {
                setSums[set + sets] = setSums[set] + sum;
            }
            if (comb.ownerOf(cell) == account) {
                readSum -= sum;
                truth |= sets;
            }
            cells[count] = cell;
            count++;
            sets *= 2;
        }

        private boolean makes(int set, int x) {
            return set >= 0 && set < sets && readSum + setSums[set] == x;
        }

        int ways(int x) {
            int ways = 0;
            for (int set = 0; set < sets; set++) {
                if (makes(set, x)) {
                    ways++;
                }
            }
            return ways;
        }

        int sure(int x) {
            int sure = sets - 1;
            boolean any = false;
            for (int set = 0; set < sets; set++) {
                if (makes(set, x)) {
                    sure &= set;
                    any = true;
                }
            }
            return any ? sure : 0;
        }

        int leastSet(int x) {
            for (int set = 0; set < sets; set++) {
                if (makes(set, x)) {
                    return set;
                }
            }
            return NOT;
        }

        int fewestToOpen() {
            int fewest = sets - 1;
            for (int opened = 0; opened < sets; opened++) {
                if (Integer.bitCount(opened) < Integer.bitCount(fewest) && leavesTruthAlone(opened)) {
                    fewest = opened;
                }
            }
            return fewest;
        }

        private boolean leavesTruthAlone(int opened) {
            int x = readSum + setSums[truth];
            for (int set = 0; set < sets; set++) {
                boolean left = (set & opened) == (truth & opened);
                if (left && set != truth && makes(set, x)) {
                    return false;
                }
            }
            return true;
        }
    }

    /** The kept hives; each act is looked for from a kind upwards. */
    private static final class Hives {
        private static final int MOST_BODIES = 50, MOST_TRACED = 24, MOST_DEEP = 40, KINDS = 8, ACTS = 4;
        private static final int WRITES = 0, SEALS = 1, DANCES = 2, TELLS = 3;
        private static final int[] ABOVE = {-1, 0, 0, 2, 1, 3, 0, 4};
        /** The body of each kind's own writes, seals, dances, tells; 0 where the kind above is asked. */
        private static final int[] OWN = {
            1, 10, 11, 2,
            20, 0, 0, 0,
            0, 30, 0, 0,
            0, 41, 40, 0,
            0, 0, 50, 0,
            0, 0, 0, 60,
            70, 0, 0, 0,
            0, 80, 0, 81};

        private final int[] kinds = new int[MOST_BODIES];
        private int bodies = 0;
        private final int[] trace = new int[MOST_TRACED];
        private int ran = 0;
        private int actor = 0;

        static boolean isKind(int kind) {
            return kind >= 0 && kind < KINDS;
        }

        boolean isBody(int body) {
            return body >= 0 && body < bodies;
        }

        int bodyCount() {
            return bodies;
        }

        int ranCount() {
            return ran;
        }

        int kindOf(int body) {
            return isBody(body) ? kinds[body] : NOT;
        }

        static boolean isUnder(int kind, int top) {
            int at = kind;
            for (int i = 0; i < KINDS && isKind(at); i++) {
                if (at == top) {
                    return true;
                }
                at = ABOVE[at];
            }
            return false;
        }

        int add(int kind) {
            if (bodies >= MOST_BODIES) {
                return FULL;
            }
            kinds[bodies] = kind;
            bodies++;
            return bodies - 1;
        }

        int traced(int i) {
            return i >= 0 && i < MOST_TRACED && i < ran ? trace[i] : BAD;
        }

        int perform(int body, int act, int x) {
            ran = 0;
            if (!isBody(body) || act < 0 || act >= ACTS) {
                return 0;
            }
            actor = body;
            return acted(kinds[body], act, x, 0);
        }

        private static int kindActing(int kind, int act) {
            int at = kind;
            for (int i = 0; i < KINDS && isKind(at); i++) {
                if (OWN[at * ACTS + act] != 0) {
                    return at;
                }
                at = ABOVE[at];
            }
            return NOT;
        }

        private void note(int number) {
            if (ran < MOST_TRACED) {
                trace[ran] = number;
            }
            ran++;
        }

        /** An act looked for from a kind on: the actor's own kind, or, for super, the kind above a body's. */
        private int acted(int from, int act, int x, int depth) {
            int kind = kindActing(from, act);
            if (kind < 0 || depth > MOST_DEEP) {
                return 0;
            }
            int number = OWN[kind * ACTS + act];
            int self = kindOf(actor);
            int above = ABOVE[kind];
            int deep = depth + 1;
            note(number);
            switch (number) {
                case 1:
                    return x + actor;
                case 2:
                    return acted(self, SEALS, x, deep) - acted(self, DANCES, 1, deep);
                case 10:
                    return acted(self, WRITES, x, deep) * 2;
                case 11:
                    return x ^ actor;
                case 20:
                    return acted(above, WRITES, x, deep) + 3;
                case 30:
                    return -acted(above, SEALS, x, deep);
                case 40:
                    return acted(above, DANCES, x, deep) * 3;
                case 41:
                    return acted(above, SEALS, x + 1, deep);
                case 50:
                    return acted(above, DANCES, x, deep) - acted(self, WRITES, 2, deep);
                case 60:
                    return acted(above, TELLS, x, deep) ^ 5;
                case 70:
                    return acted(above, WRITES, x, deep) * 2;
                case 80:
                    return acted(above, SEALS, x, deep) + acted(self, DANCES, 2, deep);
                default:
                    return acted(above, TELLS, x, deep) - 1;
            }
        }
    }
}
