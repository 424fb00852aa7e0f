import java.util.List;
import java.util.function.Supplier;

/**
 * All that calls can tell of an object, what only changing calls tell too: the tape's text, the changes that may be
 * done again, the image. Each probe asks an object of its own, since what calls beyond the 512th answer is free.
 */
final class Face {
    private interface Probe {
        void ask(BeesBooks x, StringBuilder answers);
    }

    private static final List<Probe> PROBES = List.of(
        Face::cellsAndCounts, Face::settings, (x, all) -> elements(x, 0, all), (x, all) -> elements(x, 3, all),
        Face::shelvesAndBodies, Face::lawAndTape, (x, all) -> changes(x, true, all), (x, all) -> changes(x, false, all),
        Face::image);

    private Face() {
    }

    static String of(Supplier<BeesBooks> scene) {
        StringBuilder all = new StringBuilder();
        for (Probe probe : PROBES) {
            probe.ask(scene.get(), all);
            all.append('\n');
        }
        return all.toString();
    }

    private static void add(StringBuilder all, long answer) {
        all.append(answer).append(',');
    }

    private static void cells(BeesBooks x, StringBuilder all) {
        for (int cell = 0; cell < 49; cell++) {
            add(all, x.cell(cell, 0));
            add(all, x.cell(cell, 1));
        }
        for (int what = 0; what < 6; what++) {
            add(all, x.led(what));
        }
    }

    private static void cellsAndCounts(BeesBooks x, StringBuilder all) {
        cells(x, all);
        for (int what = 0; what < 7; what++) {
            add(all, x.count(what));
        }
        for (int i = 0; i < 24; i++) {
            add(all, x.trace(i));
        }
    }

    private static void settings(BeesBooks x, StringBuilder all) {
        for (int number = 0; number < 6; number++) {
            add(all, x.of(number, 0));
        }
        add(all, x.of(0, 1));
        add(all, x.of(0, 2));
    }

    private static void elements(BeesBooks x, int shelf, StringBuilder all) {
        for (int i = 0; i < 3 * 61; i++) {
            add(all, x.element(shelf + i / 61, i % 61));
        }
    }

    private static void shelvesAndBodies(BeesBooks x, StringBuilder all) {
        for (int shelf = 0; shelf < 6; shelf++) {
            for (int kind = 0; kind < 8; kind++) {
                add(all, x.taken(shelf, kind));
            }
            add(all, x.put(shelf, 0, 0x123456789abcdef2L));
            add(all, x.element(shelf, 0));
        }
        for (int body = 0; body < 50; body++) {
            add(all, x.act(body, 3, 9));
        }
    }

    private static void lawAndTape(BeesBooks x, StringBuilder all) {
        ranks(x, all);
        x.feed('s');
        add(all, x.law());
        ranks(x, all);
    }

    private static void ranks(BeesBooks x, StringBuilder all) {
        for (int as = 0; as < 60; as++) {
            add(all, x.where(as));
        }
    }

    private static void changes(BeesBooks x, boolean again, StringBuilder all) {
        for (int i = 0; i <= 40; i++) {
            add(all, again ? x.redo() : x.undo());
            settings(x, all);
        }
    }

    private static void image(BeesBooks x, StringBuilder all) {
        add(all, x.back());
        cells(x, all);
    }
}
