import java.util.Random;

/** Promises 8 to 10: texts, their faults, and the cells that rank first by them. */
public final class LawTest {
    private static final Due DUE = new Due("LawTest");

    private LawTest() {
    }

    public static void main(String[] args) {
        faults();
        texts();
        ranks();
        limits();
        faultKeepsLaw();
        manyTexts();
        DUE.end();
    }

    private static int told(BeesBooks books, String text) {
        for (int i = 0; i < text.length(); i++) {
            books.feed(text.charAt(i));
        }
        return books.law();
    }

    private static void fault(String text, int place) {
        DUE.is("law of " + text, told(new BeesBooks(), text), -100 - place);
    }

    private static void faults() {
        fault("", 0);
        fault(" ", 0);
        fault("d ", 1);
        fault(" d", 0);
        fault("d;", 2);
        fault(";d", 0);
        fault("d;;d", 2);
        fault("?d", 0);
        fault("d?", 2);
        fault("d?d?d", 3);
        fault("(d?1)", 2);
        fault("(d;1)", 2);
        fault("(d", 2);
        fault("()", 1);
        fault("d)", 1);
        fault("d+", 2);
        fault("+d", 0);
        fault("d++d", 2);
        fault("dd", 1);
        fault("d1", 1);
        fault("1d", 1);
        fault("12345", 4);
        fault("d!", 1);
        fault("!", 1);
        fault("-", 1);
        fault("d<n<o", 3);
        fault("d<n=o", 3);
        fault("1=1=1", 3);
        fault("x", 0);
        fault("D", 0);
        fault("d(n)", 1);
        fault("(d)(n)", 3);
        fault("d&&n", 2);
        fault("d==n", 2);
        fault("d?n;", 4);
        fault("" + (char) 255, 0);
        fault("d" + (char) 0, 1);
        fault("((((((( d", 6);
        fault("-------1", 6);
        fault("!!!!!!!1", 6);
        fault("(-!(-!-1", 6);
        fault("(-!(-!(1", 6);
        fault("((((((1", 7);
        fault("((((((1)))))", 12);
        fault("((((((1)))))))", 13);
        fault("1--------1", 8);
    }

    private static void text(String text) {
        DUE.is("law of " + text, told(new BeesBooks(), text), 1);
    }

    private static void texts() {
        text("d");
        text("0000");
        text("9999");
        text("1?2;3?4;5");
        text("((((((1))))))");
        text("------1");
        text("1------1");
        text("1-------1");
        text("(-!(-!1))");
        text("!(((((1)))))+((((((1))))))");
        text("d<n&o<s|k<r");
        text("(d<n)<o");
        text("d<(n<o)");
        text("!d<!n");
        text("d*-n/-o%-s");
        text("d+n-o*s/k%r");
    }

    private static BeesBooks books(String text) {
        BeesBooks books = new BeesBooks();
        books.account(24);
        books.account(0);
        DUE.is("law of " + text, told(books, text), 1);
        return books;
    }

    private static void first(String text, int as, int cell) {
        DUE.is("where(" + as + ") by " + text, books(text).where(as), cell);
    }

    private static void ranks() {
        DUE.is("an empty comb without a law", freshWhere(1), 24);
        first("0-d", 1, 24);
        first("-d", 1, 24);
        first("d", 11, 41);
        first("1", 1, 0);
        first("r", 1, 42);
        first("-r", 1, 0);
        first("r*(s=2)", 1, 0);
        first("r*(s=2)", 2, 42);
        first("r*(k=1)", 2, 0);
        first("r*(k=1)", 12, 42);
        first("s=1?r;-d", 1, 42);
        first("s=1?r;-d", 3, 24);
        first("s=2?r", 3, 0);
        first("0?1;0?r", 3, 0);
        first("0?1;r", 3, 42);
        first("0-1?r;5", 3, 42);
        first("r=3&d<2", 1, 23);
        first("r=3|d<2", 1, 17);
        first("r=3|r=5", 1, 21);
        first("!(r<6)", 1, 42);
        first("r>5", 1, 42);
        first("r/4*100-d", 1, 31);
        first("r%4*100-d", 1, 24);
        first("r/0", 1, 0);
        first("r-(r/0)*9", 1, 42);
        first("r%0+(r=2)", 1, 14);
        first("0-7/2+3=0", 1, 0);
        first("r*((0-7)/2=0-3)", 1, 42);
        first("r*((0-7)%2=0-1)", 1, 42);
        first("r*(9-3-2=4)", 1, 42);
        first("r*(36/3/2=6)", 1, 42);
        first("r*(2+3*4=14)", 1, 42);
        first("r*(7%4*2=6)", 1, 42);
        first("r*(-3*-2=6)", 1, 42);
        first("r*(!0+!5=1)", 1, 42);
        first("r*(--3=3)", 1, 42);
        first("r*(!!7=1)", 1, 42);
        first("r*((3&4)=1)", 1, 42);
        first("r*((3|0)=1)", 1, 42);
        first("r*((0|0)=0)", 1, 42);
        first("r*((3&0)=0)", 1, 42);
        first("r*((1|0&0)=1)", 1, 42);
        first("r*((0=0&1)=1)", 1, 42);
        first("r*(9999*9999*9999<0)", 1, wrapped() < 0 ? 42 : 0);
        first("9999*9999*9999*r", 1, 7 * wrappedRow());
        first("r*(0007=7)", 1, 42);
        neighbourNames();
    }

    private static int freshWhere(int as) {
        return withDoor24().where(as);
    }

    private static int wrapped() {
        return 9999 * 9999 * 9999;
    }

    private static int wrappedRow() {
        int best = 0;
        for (int r = 1; r < 7; r++) {
            best = wrapped() * r > wrapped() * best ? r : best;
        }
        return best;
    }

    private static void neighbourNames() {
        BeesBooks books = books("n*10+o");
        // All cells are alike at first; then the neighbours of 0, and among them those of one's own.
        DUE.is("sale(1)", books.sale(1), 0);
        DUE.is("sale(11)", books.sale(11), 1);
        DUE.is("where(1)", books.where(1), 7);
        DUE.is("sale(12)", books.sale(12), 7);
        DUE.is("where(11)", books.where(11), 8);
        DUE.is("n about 8", books.cell(8, 0), -2);
        BeesBooks own = books("o");
        own.sale(11);
        own.sale(1);
        DUE.is("where its own are", own.where(1), 2);
        DUE.is("where the other's are", own.where(11), 7);
    }

    private static BeesBooks withDoor24() {
        BeesBooks books = new BeesBooks();
        books.account(24);
        return books;
    }

    private static void limits() {
        BeesBooks books = withDoor24();
        for (int i = 0; i < 60; i++) {
            DUE.is("feed", books.feed('r'), 2 * i + 1);
            DUE.is("feed", books.feed(i == 59 ? 'r' : '+'), 2 * i + 2);
        }
        DUE.is("a byte too many", books.feed('r'), -3);
        DUE.is("no byte, though full", books.feed(256), -1);
        DUE.is("count(3)", books.count(3), 120);
        DUE.is("a long text with a fault", books.law(), -100 - 119);
        DUE.is("count(3)", books.count(3), 0);
        StringBuilder lines = new StringBuilder();
        for (int i = 0; i < 59; i++) {
            lines.append("0;");
        }
        DUE.is("60 lines", told(books, lines + "r"), 1);
        DUE.is("by the first line", books.where(1), 0);
        books = withDoor24();
        DUE.is("59 lines and a condition", told(books, lines.substring(2) + "1?r"), 1);
        DUE.is("ends after 120 bytes", told(books, lines + "r;"), -100 - 120);
        StringBuilder conditions = new StringBuilder();
        for (int i = 0; i < 29; i++) {
            conditions.append("0?9;");
        }
        books = withDoor24();
        DUE.is("30 lines", told(books, conditions + "1?r"), 1);
        DUE.is("by the last line", books.where(1), 42);
        DUE.is("feed(-1)", books.feed(-1), -1);
        DUE.is("feed(0)", books.feed(0), 1);
        DUE.is("feed(255)", books.feed(255), 2);
    }

    private static void faultKeepsLaw() {
        BeesBooks books = books("r");
        DUE.is("where by r", books.where(1), 42);
        DUE.is("a text with a fault", told(books, "0-r("), -103);
        DUE.is("where by r still", books.where(1), 42);
        DUE.is("an empty text", books.law(), -100);
        DUE.is("where by r still", books.where(1), 42);
        DUE.is("another law", told(books, "0-r"), 1);
        DUE.is("where by 0-r", books.where(1), 0);
        DUE.is("a longer text", told(books, "r=30"), 1);
        DUE.is("none is row 30", books.where(1), 0);
        DUE.is("a shorter one behind it", told(books, "r=3"), 1);
        DUE.is("without what the tape held before", books.where(1), 21);
    }

    private static void manyTexts() {
        Random chance = new Random(7);
        for (int i = 0; i < 20000; i++) {
            String text = i % 2 == 0 ? Texts.perhapsFaulty(chance) : Texts.whole(chance);
            if (text.length() > 120) {
                continue;
            }
            BeesBooks books = new BeesBooks();
            Model model = new Model();
            DUE.is("law of " + text, told(books, text), modelTold(model, text));
            for (int account = 0; account < 3; account++) {
                int door = chance.nextInt(49);
                books.account(door);
                model.account(door);
            }
            for (int sale = 0; sale < 6; sale++) {
                int as = 10 * chance.nextInt(3) + 1 + chance.nextInt(6);
                DUE.is("sale(" + as + ") by " + text, books.sale(as), model.sale(as));
            }
        }
    }

    private static int modelTold(Model model, String text) {
        for (int i = 0; i < text.length(); i++) {
            model.feed(text.charAt(i));
        }
        return model.law();
    }
}
