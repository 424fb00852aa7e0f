/** Objects in the states that tests begin with; each is made by well under a hundred calls. */
final class Scenes {
    static final int BYTES = 0, SHORTS = 1, INTS = 2, LONGS = 3, BOOLEANS = 4;

    private Scenes() {
    }

    static BeesBooks with(int... doors) {
        BeesBooks x = new BeesBooks();
        for (int door : doors) {
            x.account(door);
        }
        return x;
    }

    static int told(BeesBooks x, String text) {
        for (int i = 0; i < text.length(); i++) {
            x.feed(text.charAt(i));
        }
        return x.law();
    }

    static void sell(BeesBooks x, int... as) {
        for (int one : as) {
            x.sale(one);
        }
    }

    static void bytes(BeesBooks x, int shelf, int... values) {
        fill(x, shelf, BYTES, values);
    }

    static void fill(BeesBooks x, int shelf, int sort, int... values) {
        x.row(shelf, sort, values.length);
        for (int i = 0; i < values.length; i++) {
            x.put(shelf, i, values[i]);
        }
    }

    /** Six accounts; by the law "1" sales fill the cells by their numbers. */
    static BeesBooks byNumbers(int... as) {
        BeesBooks x = with(0, 1, 2, 3, 4, 5);
        told(x, "1");
        sell(x, as);
        return x;
    }

    /** The first cells hold the same sale. */
    static BeesBooks first(int cells, int as) {
        int[] sales = new int[cells];
        java.util.Arrays.fill(sales, as);
        return byNumbers(sales);
    }

    static BeesBooks full(int as) {
        return first(49, as);
    }

    /** Six accounts without a law; by twos a cell and the sale that it holds, laid there by the account's door. */
    static BeesBooks laid(int... cellsAndSales) {
        BeesBooks x = with(0, 0, 0, 0, 0, 0);
        lay(x, cellsAndSales);
        return x;
    }

    static void lay(BeesBooks x, int... cellsAndSales) {
        for (int i = 0; i < cellsAndSales.length; i += 2) {
            int as = cellsAndSales[i + 1];
            x.mend(as / 10, 0, cellsAndSales[i]);
            if (x.sale(as) != cellsAndSales[i]) {
                throw new IllegalStateException("cell " + cellsAndSales[i] + " does not take the sale " + as);
            }
        }
    }

    /** One account; the shelves hold nothing, a hive, shorts, ints, longs, booleans: none a row of bytes. */
    static BeesBooks oddShelves() {
        BeesBooks x = with(24);
        x.body(0);
        x.keep(1, 0);
        fill(x, 2, SHORTS, 0, 1, 0, 1);
        fill(x, 3, INTS, 0, 1, 0, 1);
        fill(x, 4, LONGS, 0, 1, 0, 1);
        fill(x, 5, BOOLEANS, 0, 1, 0, 1);
        return x;
    }

    /** Something of everything: three accounts, changes done and undone, an image, a tape, bodies, shelves of each sort. */
    static BeesBooks busy() {
        BeesBooks x = with(24, 0, 48);
        told(x, "n*2+o-d");
        sell(x, 3, 15, 26, 4, 11, 22, 6, 13);
        x.mend(1, 0, 7);
        x.mend(0, 1, 4);
        x.mend(0, 2, 2);
        x.mend(2, 0, 40);
        x.undo();
        x.undo();
        x.image();
        sell(x, 5, 12);
        x.eat(1);
        x.run();
        x.fly(240);
        x.body(0);
        x.body(3);
        x.body(7);
        x.act(2, 3, 1);
        x.keep(1, 1);
        bytes(x, 2, 0, 1, 1, 6, 2, 3);
        fill(x, 3, INTS, 1 << 20, -5, 7);
        bytes(x, 4, 0, 1, 48, 0, 1);
        fill(x, 5, BOOLEANS, 1, 0, 1);
        x.feed('d');
        x.feed('+');
        return x;
    }
}
