import java.util.ArrayList;
import java.util.List;

/** The kinds of part 5 as Java classes, so that Java itself finds the bodies. */
final class ModelHives {
    private ModelHives() {
    }

    interface Writes {
        int number();

        void note(int body);

        default int writes(int x) {
            note(1);
            return x + number();
        }
    }

    interface Tells {
        void note(int body);

        int seals(int x);

        int dances(int x);

        default int tells(int x) {
            note(2);
            return seals(x) - dances(1);
        }
    }

    static class Hive implements Writes, Tells {
        int number = 0;
        int kind = 0;
        List<Integer> trace = new ArrayList<>();

        public int number() {
            return number;
        }

        public void note(int body) {
            trace.add(body);
        }

        public int writes(int x) {
            return Writes.super.writes(x);
        }

        public int seals(int x) {
            note(10);
            return writes(x) * 2;
        }

        public int dances(int x) {
            note(11);
            return x ^ number;
        }

        public int tells(int x) {
            return Tells.super.tells(x);
        }
    }

    static class Old extends Hive {
        public int writes(int x) {
            note(20);
            return super.writes(x) + 3;
        }
    }

    static class Swarm extends Hive {
        public int seals(int x) {
            note(30);
            return -super.seals(x);
        }
    }

    static class Twice extends Swarm {
        public int dances(int x) {
            note(40);
            return super.dances(x) * 3;
        }

        public int seals(int x) {
            note(41);
            return super.seals(x + 1);
        }
    }

    static class Light extends Old {
        public int dances(int x) {
            note(50);
            return super.dances(x) - writes(2);
        }
    }

    static class Foul extends Twice {
        public int tells(int x) {
            note(60);
            return super.tells(x) ^ 5;
        }
    }

    static class Drone extends Hive {
        public int writes(int x) {
            note(70);
            return super.writes(x) * 2;
        }
    }

    static class Queen extends Light {
        public int seals(int x) {
            note(80);
            return super.seals(x) + dances(2);
        }

        public int tells(int x) {
            note(81);
            return super.tells(x) - 1;
        }
    }

    static Hive made(int kind, int number) {
        Hive[] all = {new Hive(), new Old(), new Swarm(), new Twice(), new Light(), new Foul(), new Drone(), new Queen()};
        all[kind].kind = kind;
        all[kind].number = number;
        return all[kind];
    }

    static Class<?> kindClass(int kind) {
        return made(kind, 0).getClass();
    }
}
