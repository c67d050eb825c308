/** What the tests share: calls in a short form, and answers held against those that are due. */
final class Check {
    private int wrong = 0;

    static void type(SlotForest forest, String text) {
        for (int at = 0; at < text.length(); at += 8) {
            String part = text.substring(at, Math.min(text.length(), at + 8));
            if (!forest.type(word(part), part.length())) {
                throw new IllegalStateException("the tape refuses " + text);
            }
        }
    }

    static long word(String part) {
        long word = 0;
        for (int k = 0; k < part.length(); k++) {
            word = word << 8 | part.charAt(k);
        }
        return word;
    }

    /** The slots of a text's grammar, or what is thrown. */
    static String grammar(SlotForest forest, String text) {
        type(forest, text);
        try {
            return Integer.toString(forest.grammar());
        } catch (RuntimeException e) {
            return e.getClass().getSimpleName();
        }
    }

    /** Whether a text is accepted, or what is thrown. */
    static String parse(SlotForest forest, String text) {
        type(forest, text);
        try {
            return Boolean.toString(forest.parse());
        } catch (RuntimeException e) {
            return e.getClass().getSimpleName();
        }
    }

    static SlotForest with(String grammar) {
        SlotForest forest = new SlotForest();
        String answer = grammar(forest, grammar);
        if (!Character.isDigit(answer.charAt(0))) {
            throw new IllegalStateException(grammar + " " + answer);
        }
        return forest;
    }

    static SlotForest with(String grammar, String input) {
        SlotForest forest = with(grammar);
        parse(forest, input);
        return forest;
    }

    static int bits(String letters) {
        int bits = 0;
        for (int k = 0; k < letters.length(); k++) {
            bits |= letters.charAt(k) == '$' ? 1 << 26 : 1 << letters.charAt(k) - 'a';
        }
        return bits;
    }

    void due(String call, Object got, Object want) {
        if (!String.valueOf(got).equals(String.valueOf(want))) {
            wrong++;
            if (wrong <= 40) {
                System.out.println(call + " answered " + got + ", due is " + want);
            }
        }
    }

    void end() {
        System.out.println(wrong == 0 ? "all answers are as due" : wrong + " answers are not as due");
        if (wrong != 0) {
            System.exit(1);
        }
    }
}
