/** Promises 1 to 7: a new object, the tape, grammars and what is told of them. */
public final class GrammarTest {
    private static final Check CHECK = new Check();
    private static final int NONE = SlotForest.NONE;
    private static final String BIG = "S=(a|b)+T?;T=[c-ex]S*|;";

    public static void main(String[] args) {
        newObject();
        typeRefuses();
        typeOrder();
        typeLimit();
        grammarReplaces();
        syntaxFaults();
        nameFaults();
        sizeFaults();
        faultOfLatest();
        sizes();
        rules();
        sets();
        setsAtTheEdge();
        largest();
        oneAfterAnother();
        CHECK.end();
    }

    private static void newObject() {
        Subject x = new Subject();
        CHECK.due("new parse()", Check.parse(x, ""), "IllegalStateException");
        for (int what = 0; what < 8; what++) {
            CHECK.due("new count " + what, x.count(what), 0);
        }
        for (int what = 0; what < 5; what++) {
            CHECK.due("new set " + what, x.set(what, 0), NONE);
            CHECK.due("new size " + what, x.size(what), what < 4 ? 0 : NONE);
        }
        for (int what = 0; what < 3; what++) {
            CHECK.due("new fault " + what, x.fault(what), what < 2 ? 0 : NONE);
            CHECK.due("new looked " + what, x.looked(what), NONE);
            CHECK.due("new step " + what, x.step(0, what), NONE);
        }
        CHECK.due("new rule", x.rule(0, -1), NONE);
        CHECK.due("new reached", x.reached(0, 0, 0), false);
        CHECK.due("new packed", x.packed(0, 0, 0), 0);
        CHECK.due("new trees", x.trees(), 0);
        CHECK.due("new least", x.least(), 0);
        CHECK.due("NONE", NONE, -1);
    }

    private static void typeRefuses() {
        Subject x = new Subject();
        Check.type(x, "S=a");
        for (int n : new int[] {0, -1, 9, 64, Integer.MIN_VALUE, Integer.MAX_VALUE}) {
            CHECK.due("type of n " + n, x.type(Check.word("bbbbbbbb"), n), false);
        }
        for (int c : new int[] {0, 10, 31, 127, 128, 160, 255}) {
            CHECK.due("type of " + c, x.type(c, 1), false);
            CHECK.due("type of b and " + c, x.type('b' << 8 | c, 2), false);
            CHECK.due("type of " + c + " and b", x.type(c << 8 | 'b', 2), false);
        }
        CHECK.due("type(-1, 8)", x.type(-1L, 8), false);
        CHECK.due("type ;", x.type(-256L | ';', 1), true);
        CHECK.due("nothing refused is typed", Check.grammar(x, ""), 2);
        CHECK.due("lowest character", x.type(32, 1), true);
        CHECK.due("highest character", x.type(126, 1), true);
        CHECK.due("grammar of them", Check.grammar(x, ""), "IllegalArgumentException");
        CHECK.due("place of ~", x.fault(1), 1);
    }

    private static void typeOrder() {
        Subject x = new Subject();
        CHECK.due("type S=abcde;", x.type(0x533D61626364653BL, 8), true);
        CHECK.due("its slots", Check.grammar(x, ""), 6);
        for (int k = 0; k < 5; k++) {
            CHECK.due("its symbol " + k, x.rule(0, k), -2 - (1 << k));
        }
        CHECK.due("only the lowest bytes", x.type(0x7A7A7A7A533D613BL, 4), true);
        CHECK.due("slots of the lowest", Check.grammar(x, ""), 2);
    }

    private static void typeLimit() {
        Subject x = new Subject();
        Check.type(x, "S=" + " ".repeat(394));
        CHECK.due("five more than 396", x.type(Check.word("aaaaa"), 5), false);
        CHECK.due("three more than 396", x.type(Check.word("aaa"), 3), true);
        CHECK.due("two more than 399", x.type(Check.word("a;"), 2), false);
        CHECK.due("one more than 399", x.type(';', 1), true);
        CHECK.due("one more than 400", x.type(' ', 1), false);
        CHECK.due("a grammar of 400", Check.grammar(x, ""), 4);
        Check.type(x, "S=" + " ".repeat(398));
        CHECK.due("nothing behind 400", Check.grammar(x, ""), "IllegalArgumentException");
        CHECK.due("the length of 400", x.fault(1), 400);
    }

    private static void grammarReplaces() {
        Subject x = Check.with("S=SS|a|;");
        CHECK.due("empty tape", Check.grammar(x, ""), "IllegalArgumentException");
        CHECK.due("the grammar stays", x.size(3), 3);
        Check.parse(x, "aa");
        CHECK.due("with a fault", Check.grammar(x, "S=ab;T"), "IllegalArgumentException");
        CHECK.due("the tape is empty then", Check.grammar(x, "=c;"), "IllegalArgumentException");
        CHECK.due("at its first place", x.fault(1), 0);
        CHECK.due("its input stays", x.looked(0), 2);
        CHECK.due("its descriptors stay", x.count(0), 22);
        CHECK.due("too much", Check.grammar(x, "S=" + "|".repeat(60) + ";"), "IllegalArgumentException");
        CHECK.due("its rules stay", x.rule(1, 0), -3);
        CHECK.due("its sets stay", x.set(2, 0), Check.bits("a$"));
        CHECK.due("its trees stay", x.trees(), NONE);
        CHECK.due("its least tree stays", x.least(), 3);
        CHECK.due("a new one", Check.grammar(x, "S=a;"), 2);
        CHECK.due("leaves no input", x.looked(0), NONE);
        for (int what = 0; what < 8; what++) {
            CHECK.due("nor count " + what, x.count(what), 0);
        }
        CHECK.due("nor trees", x.trees(), 0);
        CHECK.due("nor a least tree", x.least(), 0);
        CHECK.due("nor steps", x.step(0, 0), NONE);
        CHECK.due("nor descriptors", x.reached(0, 0, 0), false);
        CHECK.due("nor nodes", x.packed(0, 0, 0), 0);
        CHECK.due("blanks count for nothing", Check.grammar(x, "  S = [ a - c d ] * | ( b c ) ; "), 11);
        CHECK.due("in a set neither", x.rule(2, 0), -2 - Check.bits("abcd"));
    }

    private static void syntaxFaults() {
        String[] missing = {"", "   ", "S", "S=", "S=a", "S=a  ", "S=(", "S=(a", "S=(a)", "S=[", "S=[a", "S=[a-",
            "S=[a-b", "S=a*", "S=a|", "S=a;T", "S=a;T=", "S=a; T ="};
        for (String text : missing) {
            CHECK.fault(text, 1, text.length());
        }
        CHECK.fault("s=a;", 1, 0);
        CHECK.fault("=a;", 1, 0);
        CHECK.fault("SS=a;", 1, 1);
        CHECK.fault("S a;", 1, 2);
        CHECK.fault("S=a;;", 1, 4);
        CHECK.fault("S=a);", 1, 3);
        CHECK.fault("S=(a;", 1, 4);
        CHECK.fault("S=(a));", 1, 5);
        CHECK.fault("S=a**;", 1, 4);
        CHECK.fault("S=a* ?;", 1, 5);
        CHECK.fault("S=*a;", 1, 2);
        CHECK.fault("S=a|+;", 1, 4);
        CHECK.fault("S=(?);", 1, 3);
        CHECK.fault("S=[];", 1, 3);
        CHECK.fault("S=[a-];", 1, 5);
        CHECK.fault("S=[b-a];", 1, 5);
        CHECK.fault("S=[b - a];", 1, 7);
        CHECK.fault("S=[a-c-e];", 1, 6);
        CHECK.fault("S=[-a];", 1, 3);
        CHECK.fault("S=[A];", 1, 3);
        CHECK.fault("S=[a-B];", 1, 5);
        CHECK.fault("S=[ab;", 1, 5);
        CHECK.fault("S=[a[b]];", 1, 4);
        CHECK.fault("S=a];", 1, 3);
        CHECK.fault("S=a-b;", 1, 3);
        CHECK.fault("S=a=b;", 1, 3);
        CHECK.fault("S=a1;", 1, 3);
        CHECK.fault("S=a.;", 1, 3);
        CHECK.fault("S=(((((((a)))))));", 1, 8);
        CHECK.fault("S=((((((a)((a))))))));", 1, 11);
        CHECK.fault("S=((((((a)(a))))))|a;", 0, 0);
        CHECK.fault("S=((((((a))))))(a)(a);", 0, 0);
        CHECK.fault("S=;", 0, 0);
        CHECK.fault("S=|;", 0, 0);
        CHECK.fault("S=();", 0, 0);
        CHECK.fault("S=()*(|)+[z-z]?;", 0, 0);
        CHECK.fault("S=[a-cb-dz];", 0, 0);
    }

    private static void nameFaults() {
        CHECK.fault("S=a;S=b;", 2, 4);
        CHECK.fault(" S=a; T=b; S=c; T=d;", 2, 11);
        CHECK.fault("S=T;S=a;", 2, 4);
        CHECK.fault("S=a;S=b;*", 1, 8);
        CHECK.fault("S=aT;", 3, 3);
        CHECK.fault("S=T;T=U;U=V;W=X;", 3, 10);
        CHECK.fault("S=(a|(b T)?)*U;", 3, 8);
        CHECK.fault("S=T;T=a;", 0, 0);
        CHECK.fault("S=U;" + "T=" + "|".repeat(60) + ";", 3, 2);
    }

    private static void sizeFaults() {
        StringBuilder names = new StringBuilder();
        for (int y = 0; y < 20; y++) {
            names.append((char) ('A' + y)).append("=;");
        }
        CHECK.fault(names.toString(), 0, 0);
        CHECK.fault(names + "U=;", 4, 0);
        CHECK.fault("S=" + "a?".repeat(19) + ";", 0, 0);
        CHECK.fault("S=" + "a?".repeat(20) + ";", 4, 0);
        CHECK.fault("S=" + "()".repeat(19) + ";", 0, 0);
        CHECK.fault("S=" + "()".repeat(20) + ";", 4, 0);
        CHECK.fault("S=" + "|".repeat(47) + ";", 0, 0);
        CHECK.fault("S=" + "|".repeat(48) + ";", 4, 0);
        CHECK.fault("S=" + "a*".repeat(15) + "|".repeat(17) + ";", 0, 0);
        CHECK.fault("S=" + "a*".repeat(15) + "|".repeat(18) + ";", 4, 0);
        CHECK.fault("S=" + "a".repeat(150) + ";", 0, 0);
        CHECK.fault("S=" + "a".repeat(151) + ";", 4, 0);
        CHECK.fault("S=" + "a".repeat(146) + "b+;", 0, 0);
        CHECK.fault("S=" + "a".repeat(147) + "b+;", 4, 0);
        CHECK.fault("S=" + "a".repeat(397) + ";", 4, 0);
        CHECK.fault("S=" + "a+".repeat(198) + ";", 4, 0);
        CHECK.fault("S=" + "()?".repeat(132) + ";", 4, 0);
    }

    private static void faultOfLatest() {
        Subject x = new Subject();
        Check.grammar(x, "S=a;S=b;");
        CHECK.due("fault of another what", x.fault(2), NONE);
        CHECK.due("fault of what -1", x.fault(-1), NONE);
        Check.grammar(x, "S=a;");
        CHECK.due("no fault now", x.fault(0), 0);
        CHECK.due("no place now", x.fault(1), 0);
        Check.grammar(x, "S=a;T");
        Check.parse(x, "a");
        CHECK.due("fault stays over parse", x.fault(0), 1);
        CHECK.due("place stays over parse", x.fault(1), 5);
    }

    private static void sizes() {
        Subject x = Check.with(BIG);
        int[] want = {6, 2, 11, 12, NONE};
        for (int what = 0; what < want.length; what++) {
            CHECK.due("size " + what, x.size(what), want[what]);
        }
        CHECK.due("size -1", x.size(-1), NONE);
        CHECK.due("slots", Check.grammar(x, BIG), 23);
    }

    private static void rules() {
        Subject x = Check.with(BIG);
        int[][] want = {
            {0, 3, 4}, {1, -2 - Check.bits("cdex"), 5}, {1}, {2, -3}, {2, -4}, {3, 2, 3}, {3, 2}, {4, 1}, {4},
            {5, 0, 5}, {5}
        };
        for (int a = 0; a < want.length; a++) {
            for (int k = -1; k < want[a].length - 1; k++) {
                CHECK.due("rule " + a + " " + k, x.rule(a, k), want[a][k + 1]);
            }
            CHECK.due("rule behind " + a, x.rule(a, want[a].length - 1), NONE);
            CHECK.due("rule ahead of " + a, x.rule(a, -2), NONE);
            CHECK.due("rule far from " + a, x.rule(a, Integer.MAX_VALUE), NONE);
            CHECK.due("rule as far from " + a, x.rule(a, Integer.MIN_VALUE), NONE);
        }
        for (int a : new int[] {-1, 11, 48, Integer.MAX_VALUE, Integer.MIN_VALUE}) {
            CHECK.due("rule of no alternate " + a, x.rule(a, -1), NONE);
            CHECK.due("symbol of no alternate " + a, x.rule(a, 0), NONE);
        }
        Subject order = Check.with("S=(a(b)*)+;");
        CHECK.due("(b) ends first", order.rule(order.size(2) - 1, 0), 3);
        CHECK.due("(b) is 1", order.rule(1, 0), -2 - Check.bits("b"));
        CHECK.due("(b)* is 2", order.rule(2, 0), 1);
        CHECK.due("(a(b)*) is 3", order.rule(4, -1), 3);
        Subject all = Check.with("S=[a-z];");
        CHECK.due("the widest set", all.rule(0, 0), -2 - 0x3FFFFFF);
    }

    private static void sets() {
        Subject x = Check.with(BIG);
        int[] nullable = {0, 1, 0, 0, 1, 1};
        String[] first = {"ab", "cdex", "ab", "ab", "cdex", "ab"};
        String[] follow = {"ab$", "ab$", "abcdex$", "abcdex$", "ab$", "ab$"};
        int[] apart = {1, 1, 1, 0, 0, 0};
        for (int y = 0; y < 6; y++) {
            CHECK.due("NULLABLE " + y, x.set(0, y), nullable[y]);
            CHECK.due("FIRST " + y, x.set(1, y), Check.bits(first[y]));
            CHECK.due("FOLLOW " + y, x.set(2, y), Check.bits(follow[y]));
            CHECK.due("apart " + y, x.set(4, y), apart[y]);
        }
        String[] select = {"ab", "abcdex$", "ab$", "cdex", "ab$", "ab$", "ab$"};
        for (int s = 0; s < select.length; s++) {
            CHECK.due("SELECT " + s, x.set(3, s), Check.bits(select[s]));
        }
        for (int what = 0; what < 5; what++) {
            for (int none : new int[] {-1, what == 3 ? 23 : 6, Integer.MAX_VALUE, Integer.MIN_VALUE}) {
                CHECK.due("set " + what + " of " + none, x.set(what, none), NONE);
            }
        }
        CHECK.due("set -1", x.set(-1, 0), NONE);
        CHECK.due("set 5", x.set(5, 0), NONE);
        CHECK.due("SELECT of the last slot", x.set(3, 22), Check.bits("ab$"));
    }

    private static void setsAtTheEdge() {
        Subject aside = Check.with("S=a;T=Sb;");
        CHECK.due("FOLLOW by a rule that START never leads to", aside.set(2, 0), Check.bits("b$"));
        CHECK.due("FOLLOW of what stands nowhere", aside.set(2, 1), 0);
        CHECK.due("SELECT behind it", aside.set(3, 4), 0);
        Subject endless = Check.with("S=aS|T;T=Tb;");
        CHECK.due("FIRST of what never ends", endless.set(1, 0), Check.bits("a"));
        CHECK.due("FIRST of what never begins", endless.set(1, 1), 0);
        CHECK.due("FOLLOW in it", endless.set(2, 1), Check.bits("b$"));
        CHECK.due("apart with nothing", endless.set(4, 0), 1);
        Subject chain = Check.with("A=Ba;B=Cb;C=Dc;D=E;E=|e;");
        CHECK.due("FIRST through a chain", chain.set(1, 0), Check.bits("ce"));
        CHECK.due("FOLLOW through a chain", chain.set(2, 4), Check.bits("c"));
        CHECK.due("NULLABLE through a chain", chain.set(0, 3), 1);
        CHECK.due("not NULLABLE behind it", chain.set(0, 2), 0);
    }

    /** 20 nonterminals, 48 alternates and 150 symbols, and what is asked just behind them. */
    private static void largest() {
        StringBuilder text = new StringBuilder();
        for (int y = 0; y < 20; y++) {
            text.append((char) ('A' + y)).append(y < 8 ? "=|a|" : "=|").append("abcdefg;");
        }
        text.insert(2, "zz");
        Subject x = new Subject();
        CHECK.due("slots of the largest", Check.grammar(x, text.toString()), 198);
        int[] want = {20, 20, 48, 150};
        for (int what = 0; what < 4; what++) {
            CHECK.due("size of the largest " + what, x.size(what), want[what]);
        }
        CHECK.due("its last alternate", x.rule(47, -1), 19);
        CHECK.due("its last symbol", x.rule(47, 6), -2 - Check.bits("g"));
        CHECK.due("no more alternates", x.rule(48, -1), NONE);
        CHECK.due("its first SELECT", x.set(3, 0), Check.bits("z"));
        CHECK.due("its last SELECT", x.set(3, 197), 0);
        CHECK.due("no more slots", x.set(3, 198), NONE);
        CHECK.due("its last FIRST", x.set(1, 19), Check.bits("a"));
        CHECK.due("no more nonterminals", x.set(1, 20), NONE);
        CHECK.due("input of the largest", Check.parse(x, "a"), true);
        CHECK.due("no more to reach", x.reached(198, 0, 0), false);
        CHECK.due("nor behind the places", x.reached(197, 15, 0), false);
        CHECK.due("no more to be packed", x.packed(20, 0, 1), 0);
        CHECK.due("nor to be packed there", x.packed(19, 15, 0), 0);
        Subject wide = Check.with("S=" + "a".repeat(149) + "b;");
        CHECK.due("symbol 149", wide.rule(0, 149), -4);
        CHECK.due("symbol 150", wide.rule(0, 150), NONE);
        Subject high = Check.with("S=a" + "|".repeat(46) + "|b;");
        CHECK.due("alternate 47", high.rule(47, 0), -4);
        CHECK.due("alternate 46", high.rule(46, 0), NONE);
    }

    /** Nothing of one text is left behind when another is read. */
    private static void oneAfterAnother() {
        String[] broken = {"S=((((((a", "S=[a-", "S=a;S=b;", "S=((T));", "S=" + "(a)".repeat(30) + ";", "S=[a-c"};
        for (String text : broken) {
            Subject x = new Subject();
            for (int again = 0; again < 12; again++) {
                Check.grammar(x, text);
                CHECK.due("slots behind " + text, Check.grammar(x, BIG), 23);
                CHECK.due("names behind " + text, x.size(1), 2);
                CHECK.due("rule behind " + text, x.rule(9, 1), 5);
                CHECK.due("set behind " + text, x.rule(1, 0), -2 - Check.bits("cdex"));
                CHECK.due("slots of another", Check.grammar(x, "X=y;"), 2);
                CHECK.due("not NULLABLE", x.set(0, 0), 0);
                CHECK.due("FIRST of another", x.set(1, 0), Check.bits("y"));
                CHECK.due("FOLLOW of another", x.set(2, 0), Check.bits("$"));
                CHECK.due("no nonterminals of the one", x.set(0, 1), NONE);
                CHECK.due("no alternates of the one", x.rule(1, -1), NONE);
            }
        }
        Subject x = Check.with("S=;");
        Check.grammar(x, "S=a;");
        CHECK.due("no more NULLABLE", x.set(0, 0), 0);
    }
}
