import java.util.List;
import java.util.Random;

/** Holds every answer on many made-up grammars and inputs against those of the Oracle. */
public final class OracleTest {
    private static final Check CHECK = new Check();
    /** Enough for several grammars on one object, and few enough to leave it calls to answer. */
    private static final int MOST_CHANGES = 150;

    private final Random random;
    /** Used for many grammars, so that what one leaves behind shows in another. */
    private Subject forest;

    private OracleTest(long seed) {
        random = new Random(seed);
        forest = new Subject();
    }

    public static void main(String[] args) {
        int rounds = args.length > 0 ? Integer.parseInt(args[0]) : 3000;
        long seed = args.length > 1 ? Long.parseLong(args[1]) : 1;
        OracleTest test = new OracleTest(seed);
        for (int round = 0; round < rounds; round++) {
            test.round(round);
        }
        for (String grammar : WIDE) {
            test.hold(grammar, grammar);
        }
        CHECK.end();
    }

    /** Trees so wide that their sizes and numbers reach what is told at most. */
    private static final String[] WIDE = {
        "S=AAAAAAA;A=BBBBBBB;B=CCCCCCC;C=DDDDDDD;D=EEEEEEE;E=FFFFFFF;F=GGGGGGG;G=HHHHHHH;H=IIIIIII;"
            + "I=JJJJJJJ;J=KKKKKKK;K=LLLLLLL;L=|a;",
        "S=T|S;T=AAAAAAA;A=BBBBBBB;B=CCCCCCC;C=DDDDDDD;D=EEEEEEE;E=FFFFFFF;F=GGGGGGG;G=HHHHHHH;H=IIIIIII;"
            + "I=JJJJJJJ;J=KKKKKKK;K=LLLLLLL;L=|a;",
        "S=AaA|AAA|AA|B;A=BBBBBBB;B=CCCCCCC;C=DDDDDDD;D=EEEEEEE;E=FFFFFFF;F=GGGGGGG;G=HHHHHHH;H=IIIIIII;"
            + "I=JJJJJJJ;J=KKKKKKK;K=LLLLLLL;L=|a|aL;",
        "S=AAAAAAAAAA|a;A=BBBBBBBBBB;B=CCCCCCCCCC;C=DDDDDDDDDD;D=EEEEEEEEEE;E=FFFFFFFFFF;F=GGGGGGGGGG;"
            + "G=HHHHHHHHHH;H=IIIIIIIIII;I=|a;",
        "S=SSS|SS|a|;", "S=SSSS|a|b|;", "S=S S S a|;", "S=((a|)(a|))*;", "S=((a?)*)+;", "S=(((((()+)*)?)+)*)?;"
    };

    private void round(int round) {
        String grammar = makeGrammar();
        if (forest.changes() > MOST_CHANGES) {
            forest = new Subject();
        }
        if (random.nextInt(4) == 0) {
            grammar = spoil(grammar);
        }
        if (grammar.length() <= 400) {
            hold(grammar, "round " + round + " " + grammar);
        }
    }

    private void hold(String grammar, String about) {
        Oracle oracle = new Oracle(grammar);
        String got = Check.grammar(forest, grammar);
        CHECK.due(about + " grammar()", got,
                oracle.faultKind == 0 ? oracle.slots.size() : "IllegalArgumentException");
        CHECK.due(about + " fault(0)", forest.fault(0), oracle.faultKind);
        CHECK.due(about + " fault(1)", forest.fault(1), oracle.faultPlace);
        if (oracle.faultKind != 0 || got.startsWith("Ill")) {
            return;
        }
        holdGrammar(oracle, about);
        for (int input = 0; input < 4; input++) {
            String text = makeInput();
            CHECK.due(about + " parse " + text, Check.parse(forest, text), accepted(oracle, text));
            holdInput(oracle, about + " input " + text);
        }
    }

    private static boolean accepted(Oracle oracle, String text) {
        oracle.parse(text);
        return oracle.root != null;
    }

    private void holdGrammar(Oracle oracle, String about) {
        CHECK.due(about + " size(0)", forest.size(0), oracle.nonterminals);
        CHECK.due(about + " size(1)", forest.size(1), oracle.names);
        CHECK.due(about + " size(2)", forest.size(2), oracle.bodies.size());
        CHECK.due(about + " size(3)", forest.size(3), oracle.symbols);
        for (int a = 0; a < oracle.bodies.size(); a++) {
            List<Integer> body = oracle.bodies.get(a);
            CHECK.due(about + " rule " + a, forest.rule(a, -1), oracle.owners.get(a));
            for (int k = 0; k < body.size(); k++) {
                CHECK.due(about + " rule " + a + " " + k, forest.rule(a, k), body.get(k));
            }
            CHECK.due(about + " rule " + a + " end", forest.rule(a, body.size()), -1);
        }
        for (int y = 0; y < oracle.nonterminals; y++) {
            CHECK.due(about + " NULLABLE " + y, forest.set(0, y), oracle.nullable[y] ? 1 : 0);
            CHECK.due(about + " FIRST " + y, forest.set(1, y), oracle.first[y]);
            CHECK.due(about + " FOLLOW " + y, forest.set(2, y), oracle.follow[y]);
            CHECK.due(about + " apart " + y, forest.set(4, y), oracle.apart(y) ? 1 : 0);
        }
        for (int s = 0; s < oracle.slots.size(); s++) {
            CHECK.due(about + " SELECT " + s, forest.set(3, s), oracle.select[s]);
        }
    }

    private void holdInput(Oracle oracle, String about) {
        CHECK.due(about + " FURTHEST", forest.looked(0), oracle.furthest);
        CHECK.due(about + " EXPECTED", forest.looked(1), oracle.expected);
        int least = oracle.least();
        List<int[]> steps = oracle.steps();
        // What is found on demand must not depend on the order in which it is asked for.
        if (random.nextBoolean()) {
            CHECK.due(about + " trees()", forest.trees(), oracle.trees());
        }
        if (random.nextBoolean()) {
            CHECK.due(about + " least()", forest.least(), least);
        }
        for (int k = 0; k < steps.size() + 2; k++) {
            for (int what = 0; what < 3; what++) {
                CHECK.due(about + " step " + k + " " + what, forest.step(k, what),
                        k < steps.size() ? steps.get(k)[what] : -1);
            }
        }
        for (int what = 0; what < 8; what++) {
            CHECK.due(about + " count " + what, forest.count(what), oracle.count(what));
        }
        CHECK.due(about + " trees()", forest.trees(), oracle.trees());
        CHECK.due(about + " least()", forest.least(), least);
        int places = Math.min(15, oracle.n + 2);
        for (int i = 0; i < places; i++) {
            for (int k = 0; k < places; k++) {
                holdSpan(oracle, i, k, about);
            }
        }
    }

    private void holdSpan(Oracle oracle, int i, int k, String about) {
        for (int s = 0; s < oracle.slots.size(); s++) {
            CHECK.due(about + " reached " + s + " " + i + " " + k, forest.reached(s, i, k),
                    oracle.reached.contains(new Oracle.Descriptor(s, i, k)));
        }
        for (int y = 0; y < oracle.nonterminals; y++) {
            List<Oracle.Packed> packed = oracle.forest.get(new Oracle.Node(true, y, i, k));
            CHECK.due(about + " packed " + y + " " + i + " " + k, forest.packed(y, i, k),
                    packed == null ? 0 : packed.size());
        }
    }

    private String makeGrammar() {
        int names = 1 + random.nextInt(random.nextInt(8) == 0 ? 8 : 4);
        StringBuilder text = new StringBuilder();
        String order = "SABCDEFGHIJ";
        for (int y = 0; y < names; y++) {
            blank(text);
            text.append(order.charAt(y));
            blank(text);
            text.append('=');
            makeChoice(text, names, random.nextInt(3) == 0 ? 2 : 0);
            text.append(';');
        }
        blank(text);
        return text.toString();
    }

    private void blank(StringBuilder text) {
        if (random.nextInt(12) == 0) {
            text.append(' ');
        }
    }

    private void makeChoice(StringBuilder text, int names, int depth) {
        int sequences = 1 + random.nextInt(3);
        for (int q = 0; q < sequences; q++) {
            if (q > 0) {
                text.append('|');
            }
            int items = random.nextInt(5) == 0 ? 0 : 1 + random.nextInt(random.nextInt(4) == 0 ? 5 : 3);
            for (int item = 0; item < items; item++) {
                makeAtom(text, names, depth);
                if (random.nextInt(depth > 0 ? 4 : 12) == 0) {
                    text.append("*+?".charAt(random.nextInt(3)));
                }
                blank(text);
            }
        }
    }

    private void makeAtom(StringBuilder text, int names, int depth) {
        int kind = random.nextInt(10);
        if (kind < 4) {
            text.append("SABCDEFGHIJ".charAt(random.nextInt(names)));
        } else if (kind < 8 || kind == 9 && depth == 0) {
            text.append((char) ('a' + random.nextInt(3)));
        } else if (kind == 8) {
            int from = random.nextInt(3);
            text.append('[').append((char) ('a' + from));
            if (random.nextBoolean()) {
                text.append('-').append((char) ('a' + from + random.nextInt(3)));
            }
            if (random.nextBoolean()) {
                text.append((char) ('a' + random.nextInt(26)));
            }
            text.append(']');
        } else {
            text.append('(');
            makeChoice(text, names, depth - 1);
            text.append(')');
        }
    }

    private String spoil(String grammar) {
        StringBuilder text = new StringBuilder(grammar);
        int changes = 1 + random.nextInt(2);
        for (int change = 0; change < changes && text.length() > 0; change++) {
            int at = random.nextInt(text.length());
            char c = "SABZabz=;|()[]*+?- 0_~".charAt(random.nextInt(22));
            switch (random.nextInt(4)) {
                case 0: text.setCharAt(at, c); break;
                case 1: text.insert(at, c); break;
                case 2: text.deleteCharAt(at); break;
                default: text.setLength(at); break;
            }
        }
        return text.toString();
    }

    private String makeInput() {
        int n = random.nextInt(10) == 0 ? 14 : random.nextInt(7);
        int letters = 1 + random.nextInt(3);
        StringBuilder text = new StringBuilder();
        for (int i = 0; i < n; i++) {
            text.append((char) ('a' + random.nextInt(letters)));
        }
        return text.toString();
    }
}
