/** Promises 8 to 15: inputs, descriptors, the forest and its trees. */
public final class InputTest {
    private static final Check CHECK = new Check();
    private static final int NONE = SlotForest.NONE;
    private static final int[] FAR = {-1, 15, 16, 1000, Integer.MAX_VALUE, Integer.MIN_VALUE};

    /** I has the size 1 and covers nothing; H 11, G 111 and so on up to A with 111111111. */
    private static final String ONES = "A=BBBBBBBBBB;B=CCCCCCCCCC;C=DDDDDDDDDD;D=EEEEEEEEEE;E=FFFFFFFFFF;"
            + "F=GGGGGGGGGG;G=HHHHHHHHHH;H=IIIIIIIIII;I=;";

    public static void main(String[] args) {
        parseTakesTheTape();
        parseRefuses();
        parseShapes();
        reached();
        looked();
        counts();
        countsOfUseful();
        packed();
        trees();
        treesWithoutEnd();
        mostTrees();
        least();
        leastChoices();
        leastAtTheMost();
        steps();
        stepsAtTheLimit();
        CHECK.end();
    }

    private static void parseTakesTheTape() {
        Subject x = new Subject();
        CHECK.due("without a grammar", Check.parse(x, "S=a;"), "IllegalStateException");
        CHECK.due("the tape stays then", Check.grammar(x, ""), 2);
        CHECK.due("input a", Check.parse(x, "a"), true);
        CHECK.due("the tape is empty then", Check.parse(x, ""), false);
        CHECK.due("input with blanks", Check.parse(x, "  a   "), true);
        CHECK.due("input b", Check.parse(x, "b"), false);
        CHECK.due("blanks alone", Check.parse(x, "    "), false);
        CHECK.due("they are no letters", x.looked(0), 0);
    }

    private static void parseRefuses() {
        Subject x = Check.with("S=a*;", "aa");
        int descriptors = x.count(0);
        for (String text : new String[] {"aB", "A", "a1", "a;", "aaaaaaaaaaaaaaa", "S=a;", "~", "a".repeat(300)}) {
            CHECK.due("parse " + text, Check.parse(x, text), "IllegalArgumentException");
            CHECK.due("the input stays", x.count(0), descriptors);
            CHECK.due("its tree stays", x.step(0, 2), 2);
            CHECK.due("as far as it went", x.looked(0), 2);
        }
        CHECK.due("the tape is empty then", Check.parse(x, "aaa"), true);
        CHECK.due("it is another", x.step(0, 2), 3);
        CHECK.due("14 letters", Check.parse(x, " a".repeat(14)), true);
        CHECK.due("all of them", x.step(0, 2), 14);
        CHECK.due("before the first", Check.parse(Check.with("S=a;"), "B"), "IllegalArgumentException");
        CHECK.due("there is no input", refusedFirst().looked(0), NONE);
    }

    private static Subject refusedFirst() {
        return Check.with("S=a;", "B");
    }

    private static void parseShapes() {
        accepts("S=Sa|b;", new String[] {"b", "ba", "baaa"}, new String[] {"", "a", "ab", "bb"});
        accepts("S=aSa|aa;", new String[] {"aa", "aaaa"}, new String[] {"", "a", "aaa"});
        accepts("S=T|c;T=U;U=Sa|;", new String[] {"", "a", "aa", "c", "caa"}, new String[] {"ac", "cc"});
        accepts("S=[a-c]+(d|e)?x*;", new String[] {"a", "abcd", "cexx", "bxx"}, new String[] {"", "d", "ade", "ax y"});
        accepts("S=aSbS|;", new String[] {"", "ab", "aabb", "abab"}, new String[] {"a", "b", "ba", "aab"});
        accepts("S=aS;", new String[] {}, new String[] {"", "a", "aa"});
        accepts("S=S;", new String[] {}, new String[] {"", "a"});
    }

    private static void accepts(String grammar, String[] good, String[] bad) {
        Subject x = Check.with(grammar);
        for (String text : good) {
            CHECK.due(grammar + " parse " + text, Check.parse(x, text), true);
        }
        for (String text : bad) {
            CHECK.due(grammar + " parse " + text, Check.parse(x, text), false);
        }
    }

    private static void reached() {
        Subject x = Check.with("S=aTc;T=b|;", "abc");
        String all = "";
        for (int s = 0; s < 7; s++) {
            for (int j = 0; j < 15; j++) {
                for (int i = 0; i < 15; i++) {
                    all += x.reached(s, j, i) ? " " + s + "," + j + "," + i : "";
                }
            }
        }
        CHECK.due("all that is reached", all, " 0,0,0 1,0,1 2,0,2 3,0,3 4,1,1 5,1,2");
        for (int far : FAR) {
            CHECK.due("reached from " + far, x.reached(0, far, 0), false);
            CHECK.due("reached to " + far, x.reached(0, 0, far), false);
            CHECK.due("reached slot " + far, x.reached(far, 0, 0), false);
        }
        CHECK.due("slot behind the last", x.reached(7, 0, 0), false);
        Subject full = Check.with("S=TT;T=|a;", "");
        for (int far : FAR) {
            for (int s = 0; s < 6; s++) {
                CHECK.due("slot " + s + " reached from " + far, full.reached(s, far, 0), false);
                CHECK.due("slot " + s + " reached to " + far, full.reached(s, 0, far), false);
            }
            CHECK.due("T packed from " + far, full.packed(1, far, 0), 0);
            CHECK.due("S packed from " + far, full.packed(0, far, 0), 0);
        }
        CHECK.due("tried only, as SELECT of T's empty alternate lacks b", x.reached(6, 1, 1), false);
        Check.parse(x, "ac");
        CHECK.due("reached now", x.reached(6, 1, 1), true);
        CHECK.due("not reached any more", x.reached(5, 1, 2), false);
    }

    private static void looked() {
        Subject x = Check.with("S=ab|ac|aT;T=d*e;");
        CHECK.due("without an input", x.looked(0), NONE);
        CHECK.due("nor what is expected", x.looked(1), NONE);
        Check.parse(x, "az");
        CHECK.due("FURTHEST", x.looked(0), 1);
        CHECK.due("EXPECTED", x.looked(1), Check.bits("bcde"));
        Check.parse(x, "addz");
        CHECK.due("FURTHEST further", x.looked(0), 3);
        CHECK.due("EXPECTED there", x.looked(1), Check.bits("de"));
        Check.parse(x, "ac");
        CHECK.due("FURTHEST at the end", x.looked(0), 2);
        CHECK.due("EXPECTED at the end", x.looked(1), Check.bits("$"));
        Check.parse(x, "z");
        CHECK.due("FURTHEST at the beginning", x.looked(0), 0);
        CHECK.due("EXPECTED at the beginning", x.looked(1), Check.bits("a"));
        CHECK.due("looked 2", x.looked(2), NONE);
        CHECK.due("looked -1", x.looked(-1), NONE);
    }

    private static void counts(String grammar, String input, int... want) {
        Subject x = Check.with(grammar, input);
        for (int what = 0; what < want.length; what++) {
            CHECK.due(grammar + " " + input + " count " + what, x.count(what), want[what]);
        }
    }

    private static void counts() {
        counts("S=abc;", "abc", 4, 1, 0, 1, 1, 2, 1, 0);
        counts("S=T|a;T=a;", "a", 6, 2, 1, 2, 0, 3, 2, 1);
        counts("S=abcde;", "abcd", 4, 1, 0, 0, 2, 2, 0, 0);
        counts("S=;", "", 1, 1, 0, 1, 0, 1, 1, 0);
        counts("S=;", "a", 0, 1, 0, 0, 0, 0, 0, 0);
        counts("S=aT;T=;", "a", 4, 2, 1, 2, 0, 2, 2, 0);
        counts("S=aTS|;T=;", "a", 6, 3, 2, 3, 1, 4, 3, 0);
        Subject x = Check.with("S=a;", "a");
        for (int what : new int[] {-1, 8, Integer.MAX_VALUE, Integer.MIN_VALUE}) {
            CHECK.due("count " + what, x.count(what), NONE);
        }
    }

    private static void countsOfUseful() {
        Subject x = Check.with("S=aTcb|aUcd;T=T|;U=;", "acd");
        CHECK.due("symbol nodes", x.count(3), 3);
        CHECK.due("useful ones", x.count(6), 2);
        CHECK.due("useful ones with two packed nodes", x.count(7), 0);
        CHECK.due("T's packed nodes", x.packed(1, 1, 1), 2);
        CHECK.due("a circle aside does no harm", x.trees(), 1);
        Subject inner = Check.with("S=TTT;T=a|;", "a");
        CHECK.due("useful through inner nodes", inner.count(6), 4);
        CHECK.due("inner nodes", inner.count(4), 2);
        CHECK.due("packed nodes of inner ones, too", inner.count(5), 8);
        CHECK.due("two ways to the root", inner.packed(0, 0, 1), 2);
        CHECK.due("three trees", inner.trees(), 3);
    }

    private static void packed() {
        Subject x = Check.with("S=SS|a;", "aaaa");
        for (int i = 0; i < 15; i++) {
            for (int k = 0; k < 15; k++) {
                int want = k > 4 || k <= i ? 0 : k == i + 1 ? 1 : k - i - 1;
                CHECK.due("packed " + i + " " + k, x.packed(0, i, k), want);
            }
        }
        for (int far : FAR) {
            CHECK.due("packed of " + far, x.packed(far, 0, 1), 0);
            CHECK.due("packed from " + far, x.packed(0, far, 1), 0);
            CHECK.due("packed to " + far, x.packed(0, 0, far), 0);
        }
        CHECK.due("packed of another nonterminal", x.packed(1, 0, 1), 0);
        CHECK.due("of an empty alternate one", Check.with("S=|T;T=;", "").packed(0, 0, 0), 2);
    }

    private static void trees() {
        Subject x = Check.with("S=SS|a;");
        int[] catalan = {0, 1, 1, 2, 5, 14, 42, 132, 429, 1430, 4862, 16796, 58786, 208012, 742900};
        for (int n = 0; n <= 14; n++) {
            Check.parse(x, "a".repeat(n));
            CHECK.due("trees of " + n, x.trees(), catalan[n]);
            CHECK.due("again", x.trees(), catalan[n]);
        }
        Check.parse(x, "ab");
        CHECK.due("trees of none", x.trees(), 0);
        CHECK.due("trees of one alternate twice", Check.with("S=a|a|a;", "a").trees(), 3);
        CHECK.due("trees with unlike parts", Check.with("S=TU;T=a|aa|a;U=aa|a|aa|b;", "aaa").trees(), 5);
    }

    private static void treesWithoutEnd() {
        CHECK.due("S=S", Check.with("S=S|a;", "a").trees(), NONE);
        CHECK.due("round two names", Check.with("S=T|a;T=S;", "a").trees(), NONE);
        CHECK.due("round an inner node", Check.with("S=TSTT|a;T=;", "a").trees(), NONE);
        CHECK.due("below the root", Check.with("S=bTb;T=UT|a;U=;", "bab").trees(), NONE);
        CHECK.due("of nothing", Check.with("S=SS|;", "").trees(), NONE);
        CHECK.due("x** of nothing", Check.with("S=(a*)*;", "").trees(), NONE);
        CHECK.due("with one pivot of two", Check.with("S=AB;A=a|;B=D|;D=D|a;", "a").trees(), NONE);
        CHECK.due("with the other pivot", Check.with("S=BA;A=a|;B=D|;D=D|a;", "a").trees(), NONE);
        CHECK.due("with one alternate of two", Check.with("S=D|a;D=D|a;", "a").trees(), NONE);
        CHECK.due("x* has an end", Check.with("S=a*;", "aaaaa").trees(), 1);
        CHECK.due("a circle that the input leaves out", Check.with("S=Sa|a|Tb;T=T|b;", "aaa").trees(), 1);
    }

    private static void mostTrees() {
        String two = ";A=B|;B=;";
        CHECK.due("2^39", Check.with("S=" + "A".repeat(39) + two, "").trees(), 1L << 39);
        CHECK.due("2^40", Check.with("S=" + "A".repeat(40) + two, "").trees(), 1000000000000L);
        CHECK.due("2^140", Check.with("S=" + "A".repeat(140) + two, "").trees(), 1000000000000L);
        String ten = ";A=B|B|B|B|B|B|B|B|B|;B=;";
        CHECK.due("10^11", Check.with("S=" + "A".repeat(11) + ten, "").trees(), 100000000000L);
        CHECK.due("10^12", Check.with("S=" + "A".repeat(12) + ten, "").trees(), 1000000000000L);
        CHECK.due("10^11 and 1", Check.with("S=" + "A".repeat(11) + "|" + ten, "").trees(), 100000000001L);
        CHECK.due("10^12 + 1", Check.with("S=" + "A".repeat(12) + "|" + ten, "").trees(), 1000000000000L);
        CHECK.due("10^12 - 1", Check.with("S=TPQRT;T=E|E|E;P=DD|D|;Q=DDD|;R=DDDDDD|;D=E|E|E|E|E|E|E|E|E|;E=;", "")
                .trees(), 999999999999L);
        CHECK.due("most and no end", Check.with("S=" + "A".repeat(40) + "|S" + two, "").trees(), NONE);
    }

    private static void least() {
        CHECK.due("one node", Check.with("S=T|a;T=a;", "a").least(), 1);
        CHECK.due("two nodes", Check.with("S=T|b;T=a;", "a").least(), 2);
        CHECK.due("without a root", Check.with("S=T|b;T=a;", "c").least(), 0);
        CHECK.due("without an input", Check.with("S=a;").least(), 0);
        CHECK.due("each time again", Check.with("S=AA;A=BB;B=;", "").least(), 7);
        CHECK.due("round in a circle", Check.with("S=SS|a|;", "aaaa").least(), 7);
        CHECK.due("a long way round", Check.with("S=A;A=B;B=C;C=D;D=E;E=F;F=G;G=H;H=I;I=J;J=K;K=L;L=M;M=N;N=O;"
                + "O=P;P=Q;Q=R;R=T;T=S|a;", "a").least(), 20);
        CHECK.due("the same, the other way", Check.with("S=R;R=A|Q;Q=P;P=O;O=N;N=M;M=L;L=K;K=J;J=I;I=H;H=G;G=F;"
                + "F=E;E=D;D=C;C=B;B=R|a;A=S;", "a").least(), 18);
    }

    private static void steps(String grammar, String input, String want) {
        Subject x = Check.with(grammar, input);
        StringBuilder got = new StringBuilder();
        for (int k = 0; k < 20 && x.step(k, 0) != NONE; k++) {
            got.append(k > 0 ? " " : "").append(x.step(k, 0)).append(',').append(x.step(k, 1)).append(',')
                    .append(x.step(k, 2));
        }
        CHECK.due(grammar + " " + input + " steps", got, want);
    }

    private static void leastChoices() {
        steps("S=TU|a;T=a;U=;", "a", "1,0,1");
        steps("S=T|U;T=a;U=a;", "a", "0,0,1 2,0,1");
        steps("S=U|T;T=a;U=a;", "a", "0,0,1 3,0,1");
        steps("S=TT;T=a|aa;", "aaa", "0,0,3 1,0,1 2,1,3");
        steps("S=TU;T=a|V;V=aa;U=W|aa;W=a;", "aaa", "0,0,3 1,0,1 5,1,3");
        steps("S=TTT;T=aT|;", "a", "0,0,1 2,0,0 2,0,0 1,0,1 2,1,1");
        steps("S=TUa;T=a|;U=a|Ua;", "aaa", "0,0,3 1,0,1 3,1,2");
    }

    private static void leastAtTheMost() {
        CHECK.due("111111111", Check.with(ONES, "").least(), 111111111);
        CHECK.due("999999999 and the node", Check.with("S=AAAAAAAAA;" + ONES, "").least(), 1000000000);
        CHECK.due("8 of them", Check.with("S=AAAAAAAA;" + ONES, "").least(), 888888889);
        CHECK.due("1111111111", Check.with("S=AAAAAAAAAA;" + ONES, "").least(), 1000000000);
        CHECK.due("one less than the most", Check.with("S=AAAAAAAABBBBBBBBBCCCCCCCCCCI;" + ONES, "").least(),
                999999999);
        first("of two that count as the most, the least alternate", "S=AAAAAAAAAI|AAAAAAAAA;" + ONES, "", 0, 0);
        first("the least one still", "S=AAAAAAAAAI|AAAAAAAABBBBBBBBBCCCCCCCCCCI;" + ONES, "", 1, 0);
        String parts = "X=|aAAAAAAAABBBBBBBBBCCCCCCCCCC;Y=|aAAAAAAAAA;" + ONES;
        Subject x = Check.with("S=XY;" + parts, "a");
        CHECK.due("both pivots count as the most", x.least(), 1000000000);
        CHECK.due("what is in it tells them apart", x.step(1, 2), 1);
        Subject equal = Check.with("S=YY;" + parts, "a");
        CHECK.due("nothing tells them apart but the pivot", equal.step(1, 2), 0);
        Subject round = Check.with("S=S|AAAAAAAAAA;" + ONES, "");
        CHECK.due("a circle at the most", round.least(), 1000000000);
        CHECK.due("told to its limit alone", round.step(500, 0), NONE);
    }

    private static void first(String about, String grammar, String input, int alternate, int from) {
        Subject x = Check.with(grammar, input);
        CHECK.due(about, x.step(0, 0), alternate);
        CHECK.due(about + " from", x.step(0, 1), from);
    }

    private static void steps() {
        steps("E=EpE|EmE|a;", "apama",
                "0,0,5 2,0,1 1,2,5 2,2,3 2,4,5");
        steps("S=aSbS|;", "aabbab", "0,0,6 0,1,3 1,2,2 1,3,3 0,4,6 1,5,5 1,6,6");
        steps("S=a;", "b", "");
        steps("S=a;", "a", "0,0,1");
        Subject x = Check.with("S=TT;T=a;", "aa");
        for (int k : new int[] {-1, 3, 499, 500, Integer.MAX_VALUE, Integer.MIN_VALUE}) {
            CHECK.due("step " + k, x.step(k, 0), NONE);
        }
        for (int what : new int[] {-1, 3, Integer.MAX_VALUE, Integer.MIN_VALUE}) {
            CHECK.due("step of what " + what, x.step(0, what), NONE);
        }
        Check.parse(x, "a");
        CHECK.due("no steps of another input", x.step(0, 0), NONE);
        Check.parse(x, "aa");
        CHECK.due("steps again", x.step(2, 1), 1);
    }

    private static void stepsAtTheLimit() {
        Subject x = Check.with("S=" + "T".repeat(100) + "a;T=UUUU;U=;", "a");
        CHECK.due("501 nodes", x.least(), 501);
        CHECK.due("the first T", x.step(1, 0), 1);
        CHECK.due("the first U", x.step(2, 0), 2);
        CHECK.due("the last T", x.step(496, 0), 1);
        CHECK.due("the last U but one", x.step(499, 0), 2);
        CHECK.due("the last U", x.step(500, 0), NONE);
        Subject deep = Check.with("S=AAAAAAAAAA;" + ONES, "");
        int[] want = {0, 1, 2, 3, 4, 5, 6, 7, 8, 9, 9};
        for (int k = 0; k < want.length; k++) {
            CHECK.due("deep step " + k, deep.step(k, 0), want[k]);
        }
        CHECK.due("deep step 499", deep.step(499, 1), 0);
        CHECK.due("deep step 500", deep.step(500, 1), NONE);
    }
}
