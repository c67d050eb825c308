/** What the tests share: calls in a short form, and answers held against those that are due. */
final class Check {
    private int wrong = 0;

    static void type(Subject forest, String text) {
        for (int at = 0; at < text.length(); at += 8) {
            String part = text.substring(at, Math.min(text.length(), at + 8));
            if (!forest.type(word(part), part.length())) {
                throw new IllegalStateException("the tape refuses " + text);
            }
        }
    }

    static long word(String part) {
        long word = 0;
        for (int k = 0; k < part.length(); k++) {
            word = word << 8 | part.charAt(k);
        }
        return word;
    }

    /** The slots of a text's grammar, or what is thrown. */
    static String grammar(Subject forest, String text) {
        type(forest, text);
        try {
            return Integer.toString(forest.grammar());
        } catch (RuntimeException e) {
            return e.getClass().getSimpleName();
        }
    }

    /** Whether a text is accepted, or what is thrown. */
    static String parse(Subject forest, String text) {
        type(forest, text);
        try {
            return Boolean.toString(forest.parse());
        } catch (RuntimeException e) {
            return e.getClass().getSimpleName();
        }
    }

    /** A new object with a text that is still on its tape. */
    static Subject untold(String text) {
        Subject forest = new Subject();
        type(forest, text);
        return forest;
    }

    static Subject with(String grammar) {
        Subject forest = new Subject();
        String answer = grammar(forest, grammar);
        if (!Character.isDigit(answer.charAt(0))) {
            throw new IllegalStateException(grammar + " " + answer);
        }
        return forest;
    }

    static Subject with(String grammar, String input) {
        Subject forest = with(grammar);
        parse(forest, input);
        return forest;
    }

    static int bits(String letters) {
        int bits = 0;
        for (int k = 0; k < letters.length(); k++) {
            bits |= letters.charAt(k) == '$' ? 1 << 26 : 1 << letters.charAt(k) - 'a';
        }
        return bits;
    }

    /** All that is told of the grammar and the input, as one text; first what is found on demand. */
    static String answers(Subject x) {
        StringBuilder all = new StringBuilder("trees ").append(x.trees()).append(" least ").append(x.least());
        for (int k = 0; k < 500 && x.step(k, 0) != SlotForest.NONE; k++) {
            all.append(" step ").append(x.step(k, 0)).append(' ').append(x.step(k, 1)).append(' ').append(x.step(k, 2));
        }
        for (int what = 0; what < 8; what++) {
            all.append(" count ").append(x.count(what));
        }
        all.append(" looked ").append(x.looked(0)).append(' ').append(x.looked(1)).append(ofGrammar(x));
        for (int j = 0; j < 15; j++) {
            for (int i = j; i < 15; i++) {
                all.append(ofSpan(x, j, i));
            }
        }
        return all.toString();
    }

    private static String ofGrammar(Subject x) {
        StringBuilder all = new StringBuilder();
        for (int what = 0; what < 4; what++) {
            all.append(" size ").append(x.size(what));
        }
        for (int a = 0; x.rule(a, -1) != SlotForest.NONE; a++) {
            all.append(" rule ").append(x.rule(a, -1)).append(':');
            for (int k = 0; x.rule(a, k) != SlotForest.NONE; k++) {
                all.append(' ').append(x.rule(a, k));
            }
        }
        for (int what = 0; what < 5; what++) {
            all.append(" set");
            for (int number = 0; x.set(what, number) != SlotForest.NONE; number++) {
                all.append(' ').append(x.set(what, number));
            }
        }
        return all.toString();
    }

    private static String ofSpan(Subject x, int j, int i) {
        StringBuilder all = new StringBuilder();
        for (int s = 0; x.set(3, s) != SlotForest.NONE; s++) {
            all.append(x.reached(s, j, i) ? " reached " + s + "," + j + "," + i : "");
        }
        for (int y = 0; y < x.size(0); y++) {
            int packed = x.packed(y, j, i);
            all.append(packed > 0 ? " packed " + y + "," + j + "," + i + ": " + packed : "");
        }
        return all.toString();
    }

    /** A text's fault on a new object; 0, 0 for none. */
    void fault(String text, int kind, int place) {
        Subject x = new Subject();
        String answer = grammar(x, text);
        due(text + " throws", answer.equals("IllegalArgumentException"), kind != 0);
        due(text + " fault", x.fault(0), kind);
        due(text + " place", x.fault(1), place);
    }

    void due(String call, Object got, Object want) {
        if (!String.valueOf(got).equals(String.valueOf(want))) {
            wrong++;
            if (wrong <= 40) {
                System.out.println(call + " answered " + got + ", due is " + want);
            }
        }
    }

    void end() {
        System.out.println(wrong == 0 ? "all answers are as due" : wrong + " answers are not as due");
        if (wrong != 0) {
            System.exit(1);
        }
    }
}
