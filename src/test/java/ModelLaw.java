/** THE LAW by its grammar, worked out from the text each time; its fault by trying what may follow. */
final class ModelLaw {
    private final String text;
    private final int[] names;
    private int at = 0;
    private int open = 0;

    private static final class NoText extends RuntimeException {
        private static final long serialVersionUID = 1L;
    }

    private ModelLaw(String text, int[] names) {
        this.text = text;
        this.names = names;
    }

    static boolean isText(String text) {
        try {
            new ModelLaw(text, new int[6]).lines();
            return true;
        } catch (NoText e) {
            return false;
        }
    }

    static int value(String text, int[] names) {
        return new ModelLaw(text, names).lines();
    }

    /** A text begins so, if an operand and brackets to close are all that it may lack. */
    static boolean begins(String start) {
        StringBuilder closing = new StringBuilder();
        for (int i = 0; i <= 6; i++) {
            if (isText(start + closing) || isText(start + "1" + closing)) {
                return true;
            }
            closing.append(')');
        }
        return false;
    }

    static int fault(String text) {
        if (isText(text)) {
            return -1;
        }
        for (int i = 0; i < text.length(); i++) {
            if (!begins(text.substring(0, i + 1))) {
                return i;
            }
        }
        return text.length();
    }

    private char next() {
        return at < text.length() ? text.charAt(at) : '\uffff';
    }

    private boolean takes(char letter) {
        if (next() == letter) {
            at++;
            return true;
        }
        return false;
    }

    private int lines() {
        int answer = 0;
        boolean found = false;
        do {
            int first = e();
            boolean asked = takes('?');
            int then = asked ? e() : first;
            if (!found && (!asked || first != 0)) {
                answer = then;
                found = true;
            }
        } while (takes(';'));
        if (at < text.length()) {
            throw new NoText();
        }
        return answer;
    }

    private int e() {
        int value = a();
        while (takes('|')) {
            int other = a();
            value = value != 0 || other != 0 ? 1 : 0;
        }
        return value;
    }

    private int a() {
        int value = b();
        while (takes('&')) {
            int other = b();
            value = value != 0 && other != 0 ? 1 : 0;
        }
        return value;
    }

    private int b() {
        int value = s();
        if (takes('<')) {
            return value < s() ? 1 : 0;
        }
        if (takes('=')) {
            return value == s() ? 1 : 0;
        }
        if (takes('>')) {
            return value > s() ? 1 : 0;
        }
        return value;
    }

    private int s() {
        int value = p();
        while (true) {
            if (takes('+')) {
                value += p();
            } else if (takes('-')) {
                value -= p();
            } else {
                return value;
            }
        }
    }

    private int p() {
        int value = o();
        while (true) {
            if (takes('*')) {
                value *= o();
            } else if (takes('/')) {
                int by = o();
                value = by == 0 ? 0 : value / by;
            } else if (takes('%')) {
                int by = o();
                value = by == 0 ? 0 : value % by;
            } else {
                return value;
            }
        }
    }

    private int o() {
        char letter = next();
        int name = "dnoskr".indexOf(letter);
        if (letter >= '0' && letter <= '9') {
            int from = at;
            while (at < from + 4 && next() >= '0' && next() <= '9') {
                at++;
            }
            return Integer.parseInt(text.substring(from, at));
        }
        if (name >= 0) {
            at++;
            return names[name];
        }
        if ("(!-".indexOf(letter) < 0 || open == 6) {
            throw new NoText();
        }
        at++;
        open++;
        int value = letter == '(' ? e() : o();
        if (letter == '(' && !takes(')')) {
            throw new NoText();
        }
        open--;
        return letter == '(' ? value : letter == '-' ? -value : value == 0 ? 1 : 0;
    }
}
