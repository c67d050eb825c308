import java.util.function.Function;

/** "An object is used for at most 512 calls after it has been made": it holds up to the last of them. */
public final class CallsTest {
    private static final Check CHECK = new Check();
    private static final int MOST_CALLS = 512;
    private static final int NONE = SlotForest.NONE;
    private static final String BAD = "IllegalArgumentException";

    private final String about;
    private final SlotForest object = new SlotForest();
    private int calls = 0;

    private CallsTest(String about) {
        this.about = about;
    }

    public static void main(String[] args) {
        typeToTheLast();
        typeRefusedToTheLast();
        grammarToTheLast();
        largestGrammarsToTheLast();
        faultsToTheLast();
        parseToTheLast();
        noGrammarToTheLast();
        noInputToTheLast();
        answersToTheLast();
        allInTurnToTheLast();
        CHECK.end();
    }

    private boolean isLeft(int more) {
        return calls + more <= MOST_CALLS;
    }

    private void due(String call, Function<SlotForest, ?> made, Object want) {
        calls++;
        Object got;
        try {
            got = made.apply(object);
        } catch (RuntimeException e) {
            got = e.getClass().getSimpleName();
        }
        CHECK.due(about + ": call " + calls + ", " + call, got, want);
    }

    private void type(String text) {
        for (int at = 0; at < text.length(); at += 8) {
            String part = text.substring(at, Math.min(text.length(), at + 8));
            due("type " + part, x -> x.type(Check.word(part), part.length()), true);
        }
    }

    private void grammar(String text, Object want) {
        type(text);
        due("grammar", x -> x.grammar(), want);
    }

    private void parse(String text, Object want) {
        type(text);
        due("parse", x -> x.parse(), want);
    }

    /** Calls that leave all as it is, as often as they are needed to come to a certain call. */
    private void idleUpTo(int call) {
        while (calls < call) {
            due("fault 2", x -> x.fault(2), NONE);
        }
    }

    private void end() {
        CHECK.due(about + ": calls in all", calls, MOST_CALLS);
    }

    private static void typeToTheLast() {
        CallsTest run = new CallsTest("type");
        while (run.isLeft(1)) {
            run.due("type", x -> x.type(' ', 1), run.calls < 400);
        }
        run.end();
        CallsTest last = new CallsTest("type, the last");
        last.idleUpTo(511);
        last.type("S=a;");
        last.end();
        CallsTest late = new CallsTest("late type");
        late.idleUpTo(509);
        late.grammar("S=a;", 2);
        late.due("parse", x -> x.parse(), false);
        late.end();
    }

    private static void typeRefusedToTheLast() {
        CallsTest run = new CallsTest("refused type");
        while (run.isLeft(3)) {
            run.due("type 0", x -> x.type('a', 0), false);
        }
        run.grammar("S=ab;", 3);
        run.end();
    }

    private static void grammarToTheLast() {
        CallsTest run = new CallsTest("grammar");
        String[] texts = {"S=a*;", "S=;", "X=ab|c;", "S=((a));"};
        int[] slots = {6, 1, 5, 6};
        for (int turn = 0; run.isLeft(2); turn++) {
            run.grammar(texts[turn % 4], slots[turn % 4]);
        }
        run.end();
    }

    private static void largestGrammarsToTheLast() {
        CallsTest run = new CallsTest("largest grammars");
        run.idleUpTo(2);
        String most = "S=" + " ".repeat(200) + "|".repeat(47) + "a".repeat(150) + ";";
        for (int turn = 0; run.isLeft(51); turn++) {
            run.grammar(most, 198);
        }
        run.end();
    }

    private static void faultsToTheLast() {
        CallsTest run = new CallsTest("faults");
        run.grammar("S=SS|a|;", 6);
        run.parse("aa", true);
        for (int turn = 0; run.isLeft(4); turn++) {
            run.grammar("S=a;T", BAD);
            run.due("fault 1", x -> x.fault(1), 5);
            run.due("count 0", x -> x.count(0), 22);
        }
        run.end();
    }

    private static void parseToTheLast() {
        CallsTest run = new CallsTest("parse");
        run.grammar("S=SS|a;", 5);
        String[] inputs = {"aaaaaaaaaaaaaa", "a", "aaaaaaab", "", "aaaaaaaaaaaaaaa", "aA"};
        String[] want = {"true", "true", "false", "false", BAD, BAD};
        for (int turn = 0; run.isLeft(4); turn++) {
            run.parse(inputs[turn % 6], want[turn % 6]);
        }
        run.idleUpTo(511);
        run.due("looked 0", x -> x.looked(0) >= 0, true);
        run.end();
    }

    private static void noGrammarToTheLast() {
        CallsTest run = new CallsTest("parse without a grammar");
        while (run.isLeft(1)) {
            run.parse("", "IllegalStateException");
        }
        run.end();
    }

    private static void noInputToTheLast() {
        CallsTest run = new CallsTest("parse of no input");
        run.grammar("S=a*;", 6);
        run.parse("aaa", true);
        while (run.isLeft(3)) {
            run.parse("A", BAD);
            run.due("least", x -> x.least(), 5);
        }
        run.idleUpTo(512);
        run.end();
    }

    /** Whatever is asked, the last answer is the first one again. */
    private static void answersToTheLast() {
        answerToTheLast("fault", x -> x.fault(0), 0);
        answerToTheLast("size", x -> x.size(3), 3);
        answerToTheLast("rule", x -> x.rule(1, 0), -3);
        answerToTheLast("set", x -> x.set(2, 0), Check.bits("a$"));
        answerToTheLast("reached", x -> x.reached(0, 3, 3), true);
        answerToTheLast("looked", x -> x.looked(0), 4);
        answerToTheLast("count", x -> x.count(7), 3);
        answerToTheLast("packed", x -> x.packed(0, 0, 4), 3);
        answerToTheLast("trees", x -> x.trees(), 5);
        answerToTheLast("least", x -> x.least(), 7);
        answerToTheLast("step", x -> x.step(6, 2), 4);
    }

    private static void answerToTheLast(String call, Function<SlotForest, ?> made, Object want) {
        CallsTest run = new CallsTest(call);
        run.grammar("S=SS|a;", 5);
        run.parse("aaaa", true);
        while (run.isLeft(1)) {
            run.due(call, made, want);
        }
        run.end();
    }

    /** Grammars, inputs and questions in turn, as the object is meant to be used. */
    private static void allInTurnToTheLast() {
        CallsTest run = new CallsTest("all in turn");
        while (run.isLeft(16)) {
            run.grammar("S=SS|a;", 5);
            run.parse("aaaa", true);
            run.due("trees", x -> x.trees(), 5);
            run.due("least", x -> x.least(), 7);
            run.due("step", x -> x.step(6, 2), 4);
            run.due("count", x -> x.count(7), 3);
            run.grammar("S=S|;", 3);
            run.parse("", true);
            run.due("trees", x -> x.trees(), NONE);
            run.due("least", x -> x.least(), 1);
            run.due("step", x -> x.step(1, 2), NONE);
            run.due("count", x -> x.count(7), 1);
        }
        run.idleUpTo(511);
        run.due("count", x -> x.count(7), 1);
        run.end();
    }
}
