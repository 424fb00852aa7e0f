import java.util.Random;

/** Texts of laws by chance, most of them whole, some with a fault. */
final class Texts {
    private final Random chance;
    private final StringBuilder text = new StringBuilder();

    private Texts(Random chance) {
        this.chance = chance;
    }

    static String whole(Random chance) {
        Texts texts = new Texts(chance);
        int lines = 1 + chance.nextInt(3);
        for (int i = 0; i < lines; i++) {
            texts.text.append(i == 0 ? "" : ";");
            if (chance.nextInt(3) == 0) {
                texts.binary(0, 0);
                texts.text.append('?');
            }
            texts.binary(0, 0);
        }
        return texts.text.toString();
    }

    static String perhapsFaulty(Random chance) {
        StringBuilder text = new StringBuilder(whole(chance));
        for (int i = chance.nextInt(3); i > 0; i--) {
            int place = chance.nextInt(text.length() + 1);
            String letters = "dnoskr0123456789|&<=>+-*/%!()?; x";
            char letter = letters.charAt(chance.nextInt(letters.length()));
            int way = chance.nextInt(3);
            if (way == 0) {
                text.insert(place, letter);
            } else if (way == 1) {
                text.setLength(place);
            } else if (place < text.length()) {
                text.setCharAt(place, letter);
            }
        }
        return text.toString();
    }

    private void binary(int level, int deep) {
        if (level == 5) {
            operand(deep);
            return;
        }
        String signs = new String[] {"|", "&", "<=>", "+-", "*/%"}[level];
        binary(level + 1, deep);
        int most = level == 2 ? 1 : 2;
        for (int i = 0; i < most && chance.nextInt(6) == 0; i++) {
            text.append(signs.charAt(chance.nextInt(signs.length())));
            binary(level + 1, deep);
        }
    }

    private void operand(int deep) {
        int way = chance.nextInt(10);
        if (way < 2) {
            text.append(chance.nextInt(chance.nextInt(3) == 0 ? 10000 : 8));
        } else if (way < 7 || deep >= 6 && chance.nextInt(4) != 0) {
            text.append("dnoskr".charAt(chance.nextInt(6)));
        } else if (way == 7) {
            text.append('(');
            binary(0, deep + 1);
            text.append(')');
        } else {
            text.append(way == 8 ? '!' : '-');
            operand(deep + 1);
        }
    }
}
