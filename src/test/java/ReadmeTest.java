/** The example in README.md answers what stands behind its calls there. */
public final class ReadmeTest {
    private static final Check CHECK = new Check();

    public static void main(String[] args) {
        SlotForest forest = new SlotForest();
        CHECK.due("E=EpEa is typed", forest.type(0x453D45704561L, 6), true);
        CHECK.due("E=EpEa is a grammar", isGrammar(forest), false);
        CHECK.due("fault(0)", forest.fault(0), 1);
        CHECK.due("fault(1)", forest.fault(1), 6);

        CHECK.due("E=EpE|a; is typed", forest.type(0x453D4570457C613BL, 8), true);
        CHECK.due("grammar()", forest.grammar(), 6);
        CHECK.due("apapa is typed", forest.type(0x6170617061L, 5), true);
        CHECK.due("parse()", forest.parse(), true);
        CHECK.due("trees()", forest.trees(), 2);
        CHECK.due("least()", forest.least(), 5);
        CHECK.due("step(1, 2)", forest.step(1, 2), 1);
        CHECK.end();
    }

    private static boolean isGrammar(SlotForest forest) {
        try {
            forest.grammar();
            return true;
        } catch (IllegalArgumentException e) {
            return false;
        }
    }
}
