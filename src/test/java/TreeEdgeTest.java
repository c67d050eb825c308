/**
 * The edges of trees: the terms from A TREE to THE LEAST TREE, and promises 13 to 15. The words of the
 * document that a test stands for are above it.
 */
public final class TreeEdgeTest {
    private static final Check CHECK = new Check();
    private static final int NONE = SlotForest.NONE;
    private static final long MOST_TREES = 1000000000000L;
    private static final int MOST_IN_TREE = 1000000000;
    private static final int[] FAR = {Integer.MIN_VALUE, Integer.MIN_VALUE + 1, -500, -3, -2, -1, 500, 501, 512, 1000,
        1 << 16, 1 << 30, Integer.MAX_VALUE - 1, Integer.MAX_VALUE};

    /** Of nothing: K has 10 trees, N has 9, M has 5. */
    private static final String TENS = "K=|||||||||;N=||||||||;M=||||;";
    /** Of nothing: J has the SIZE 1, I 11, H 111 and so on up to B with 111111111; A 1111111111. */
    private static final String ONES = "B=CCCCCCCCCC;C=DDDDDDDDDD;D=EEEEEEEEEE;E=FFFFFFFFFF;F=GGGGGGGGGG;G=HHHHHHHHHH;"
            + "H=IIIIIIIIII;I=JJJJJJJJJJ;J=;";
    private static final String TEN_OF_THEM = "A=BBBBBBBBBB;" + ONES;
    /** Parts of ONES that have the SIZES 10^9 - 4 to 10^9 - 1 together. */
    private static final String LESS_4 = "BBBBBBBBCCCCCCCCCDDDDDDDDDEEEEEEEEEE";
    private static final String LESS_3 = "BBBBBBBBCCCCCCCCCDDDDDDDDDD";
    private static final String LESS_2 = "BBBBBBBBCCCCCCCCCC";
    private static final String LESS_1 = "BBBBBBBBB";

    public static void main(String[] args) {
        treesWithoutRoot();
        fewestTrees();
        treesOfAProduct();
        treesOfAlternates();
        treesOfPivots();
        treesBeyondInParts();
        treesThatWrapAround();
        treesWithoutEnd();
        treesWithAnEnd();
        leastWithoutRoot();
        fewestNodes();
        nodesCountAgainEachTime();
        sizesAtTheMost();
        sizesThatWrapAround();
        circlesAreNoLeastTrees();
        leastSizeFirst();
        thenTheLeastAlternate();
        thenTheLeastInIt();
        thenTheLeastPivot();
        likewiseWithinInnerNodes();
        mostIsComparedAsItCounts();
        mostWithinInnerNodes();
        stepsInOrder();
        stepsToTheLast();
        stepsUpTo500();
        stepsWithoutRoot();
        stepOfAnotherWhat();
        oneAfterAnother();
        CHECK.end();
    }

    // ---- promise 13

    private static void trees(String about, String grammar, String input, long want) {
        CHECK.due(about + ": trees of " + grammar, Check.with(grammar, input).trees(), want);
    }

    /** "0 without one". */
    private static void treesWithoutRoot() {
        CHECK.due("trees at first", new Subject().trees(), 0);
        CHECK.due("trees without an input", Check.with("S=|S;").trees(), 0);
        trees("not accepted", "S=a;", "b", 0);
        trees("not accepted, part of it", "S=ab;", "a", 0);
        trees("not accepted, with more behind it", "S=a|S;", "aa", 0);
        trees("nothing to accept", "S=S;", "", 0);
        Subject x = Check.with("S=a|a;", "a");
        CHECK.due("trees of a root", x.trees(), 2);
        Check.parse(x, "b");
        CHECK.due("trees of none", x.trees(), 0);
        Check.parse(x, "a");
        CHECK.due("trees of a root again", x.trees(), 2);
        Check.grammar(x, "S=a;");
        CHECK.due("trees of no input", x.trees(), 0);
    }

    private static void fewestTrees() {
        trees("of nothing", "S=;", "", 1);
        trees("of a letter", "S=a;", "a", 1);
        trees("two alternates", "S=|;", "", 2);
        trees("48 alternates", "S=" + "|".repeat(47) + ";", "", 48);
        trees("14 letters", "S=[a-z]*;", "abcdefghijklmn", 1);
        trees("all divisions", "S=SS|a;", "a".repeat(14), 742900);
        trees("a part with two, again and again", "S=TTT;T=a|a;", "aaa", 8);
    }

    /** "at most 10^12 (which is told for more, too)": one less, as many, and more. */
    private static void treesOfAProduct() {
        trees("10^11", "S=KKKKKKKKKKK;" + TENS, "", MOST_TREES / 10);
        trees("9 * 10^11", "S=NKKKKKKKKKKK;" + TENS, "", MOST_TREES / 10 * 9);
        trees("10^12", "S=KKKKKKKKKKKK;" + TENS, "", MOST_TREES);
        trees("10^13", "S=KKKKKKKKKKKKK;" + TENS, "", MOST_TREES);
        trees("10^12 - 1", "S=TTUVW;T=||;U=KK|K|;V=KKK|;W=KKKKKK|;" + TENS, "", MOST_TREES - 1);
        trees("2^39", "S=" + "T".repeat(39) + ";T=|;", "", 1L << 39);
        trees("2^40", "S=" + "T".repeat(40) + ";T=|;", "", MOST_TREES);
        trees("1", "S=" + "T".repeat(149) + ";T=;", "", 1);
        trees("2^148", "S=" + "T".repeat(148) + ";T=|;", "", MOST_TREES);
    }

    /** Of 12 alternates, that with 9 * 10^11 trees first, the sum is 10^12 - 1. */
    private static void treesOfAlternates() {
        String powers = "A=KB;B=KC;C=KD;D=KE;E=KF;F=KG;G=KH;H=KI;I=KJ;J=KK;K=|||||||||;N=||||||||;";
        String all = "NA|NB|NC|ND|NE|NF|NG|NH|NI|NJ|NK|N";
        trees("10^12 - 2", "S=NA|NB|NC|ND|NE|NF|NG|NH|NI|NJ|NK||||||||;" + powers, "", MOST_TREES - 2);
        trees("10^12 - 1", "S=" + all + ";" + powers, "", MOST_TREES - 1);
        trees("10^12", "S=" + all + "|;" + powers, "", MOST_TREES);
        trees("10^12 + 1", "S=" + all + "||;" + powers, "", MOST_TREES);
        trees("10^12 + 1, the least first", "S=||" + all + ";" + powers, "", MOST_TREES);
        trees("10 times 10^11", "S=A|A|A|A|A|A|A|A|A|A;" + powers, "", MOST_TREES);
        trees("11 times 10^11", "S=A|A|A|A|A|A|A|A|A|A|A;" + powers, "", MOST_TREES);
    }

    /** Of both pivots, the sum is twice the trees of nothing times those of a. */
    private static void treesOfPivots() {
        trees("10^12 - 10^6", "S=XX;X=NR|aKKKKKM;R=KKKKK|KKKK|KKK|KK|K|;" + TENS, "a", MOST_TREES - 1000000);
        trees("10^12", "S=XX;X=KKKKKK|aKKKKKM;" + TENS, "a", MOST_TREES);
        trees("10^12 + 10^6", "S=XX;X=KKKKKK||aKKKKKM;" + TENS, "a", MOST_TREES);
        trees("10^12 - 10^6 in an inner node", "S=XXb;X=NR|aKKKKKM;R=KKKKK|KKKK|KKK|KK|K|;" + TENS, "ab",
                MOST_TREES - 1000000);
        trees("10^12 in an inner node", "S=XXb;X=KKKKKK|aKKKKKM;" + TENS, "ab", MOST_TREES);
        trees("10^12 + 10^6 in an inner node", "S=XXb;X=KKKKKK||aKKKKKM;" + TENS, "ab", MOST_TREES);
    }

    private static void treesBeyondInParts() {
        String much = ";T=KKKKKKKKKKKKK;" + TENS;
        trees("a part alone", "S=T" + much, "", MOST_TREES);
        trees("twice", "S=TT" + much, "", MOST_TREES);
        trees("ten times", "S=TTTTTTTTTT" + much, "", MOST_TREES);
        trees("with others", "S=KTK" + much, "", MOST_TREES);
        trees("with one of one tree", "S=UTU;U=" + much, "", MOST_TREES);
        trees("in three alternates", "S=T|T|T" + much, "", MOST_TREES);
        trees("aside", "S=a|bT" + much, "a", 1);
    }

    /** Numbers that are 0, less than 0, 1 or NONE in 64 bits, and some beyond 32. */
    private static void treesThatWrapAround() {
        for (int power : new int[] {31, 32, 33}) {
            trees("2^" + power, "S=" + "T".repeat(power) + ";T=|;", "", 1L << power);
        }
        for (int power : new int[] {62, 63, 64, 65, 126, 127, 128}) {
            trees("2^" + power, "S=" + "T".repeat(power) + ";T=|;", "", MOST_TREES);
        }
        trees("2^32 times 2^32", "S=UU;U=" + "T".repeat(32) + ";T=|;", "", MOST_TREES);
        trees("2^39 times 2^25", "S=UV;U=" + "T".repeat(39) + ";V=" + "T".repeat(25) + ";T=|;", "", MOST_TREES);
        trees("2^63 and 2^63", "S=U|U;U=" + "T".repeat(63) + ";T=|;", "", MOST_TREES);
        trees("2^64 - 1", "S=ABCDEF;A=T|;B=TT|;C=TTTT|;D=" + "T".repeat(8) + "|;E=" + "T".repeat(16) + "|;F="
                + "T".repeat(32) + "|;T=|;", "", MOST_TREES);
        trees("2^64 + 1", "S=" + "T".repeat(64) + "|;T=|;", "", MOST_TREES);
        trees("2^32 + 1", "S=" + "T".repeat(32) + "|;T=|;", "", (1L << 32) + 1L);
        trees("2^32 - 1", "S=ABCDE;A=T|;B=TT|;C=TTTT|;D=" + "T".repeat(8) + "|;E=" + "T".repeat(16) + "|;T=|;", "",
                (1L << 32) - 1L);
    }

    /** "NONE if they are without end". */
    private static void treesWithoutEnd() {
        trees("S in itself", "S=S|;", "", NONE);
        trees("S in itself, last", "S=|S;", "", NONE);
        trees("S in itself, ahead of nothing", "S=ST|a;T=;", "a", NONE);
        trees("S in itself, behind nothing", "S=TS|a;T=;", "a", NONE);
        trees("S in itself, between nothing", "S=TSTT|a;T=|b;", "a", NONE);
        trees("a circle of 20", "A=B|a;B=C;C=D;D=E;E=F;F=G;G=H;H=I;I=J;J=K;K=L;L=M;M=N;N=O;O=P;P=Q;Q=R;R=S;S=T;T=A;",
                "a", NONE);
        trees("a circle in the last part", "S=aaaaaaaaaaaaaT;T=T|a;", "a".repeat(14), NONE);
        trees("a circle in the first part", "S=Taaaaaaaaaaaaa;T=T|a;", "a".repeat(14), NONE);
        trees("a circle of nothing", "S=aT;T=TT|;", "a", NONE);
        trees("a circle far below", "S=T;T=aUb;U=cVd;V=eWf;W=W|x;", "acexfdb", NONE);
        trees("10^13 and a circle", "S=KKKKKKKKKKKKK|S;" + TENS, "", NONE);
        trees("10^13 times a circle", "S=KKKKKKKKKKKKKT;T=T|;" + TENS, "", NONE);
        trees("a circle times 10^13", "S=TKKKKKKKKKKKKK;T=T|;" + TENS, "", NONE);
        trees("with the first pivot", "S=TU;T=|a;U=|W;W=W|a;", "a", NONE);
        trees("with the last pivot", "S=UT;T=|a;U=|W;W=W|a;", "a", NONE);
        trees("10^13 times a circle with the first pivot", "S=TU;T=KKKKKKKKKKKKK|a;U=|W;W=W|a;" + TENS, "a", NONE);
        trees("10^13 times a circle with the last pivot", "S=UT;T=KKKKKKKKKKKKK|a;U=|W;W=W|a;" + TENS, "a", NONE);
        trees("x* of what can be nothing", "S=(a?)*;", "a", NONE);
        trees("x+ of what can be nothing", "S=(a?)+;", "a", NONE);
        trees("x? of S", "S=S?;", "", NONE);
    }

    private static void treesWithAnEnd() {
        trees("the circle reads a letter", "S=aS|a;", "aaa", 1);
        trees("the circle is not in what is read", "S=aT|ab;T=T|c;", "ab", 1);
        trees("the circle is reached, but not useful", "S=aTcb|aUcd;T=T|;U=;", "acd", 1);
        trees("x* of what can't be nothing", "S=(a|b)*;", "abab", 1);
        trees("x* beside what can be nothing", "S=a*b?;", "aa", 1);
        trees("x? of a letter", "S=a?;", "", 1);
        trees("no circle, 20 of them", "A=B|a;B=C;C=D;D=E;E=F;F=G;G=H;H=I;I=J;J=K;K=L;L=M;M=N;N=O;O=P;P=Q;Q=R;R=S;"
                + "S=T;T=a;", "a", 2);
        trees("no circle, the other way", "S=a|T;T=U;R=a;Q=R;P=Q;O=P;N=O;M=N;L=M;K=L;J=K;I=J;H=I;G=H;F=G;E=F;D=E;C=D;"
                + "B=C;U=B;", "a", 2);
    }

    // ---- promise 14

    private static void least(String about, String grammar, String input, int want) {
        CHECK.due(about + ": least of " + grammar, Check.with(grammar, input).least(), want);
    }

    /** "0 without a root." */
    private static void leastWithoutRoot() {
        CHECK.due("least at first", new Subject().least(), 0);
        CHECK.due("least without an input", Check.with("S=|S;").least(), 0);
        least("not accepted", "S=a;", "b", 0);
        least("not accepted, part of it", "S=Tb;T=a;", "a", 0);
        least("nothing to accept", "S=S;", "", 0);
        Subject x = Check.with("S=Ta;T=b;", "ba");
        CHECK.due("least of a root", x.least(), 2);
        Check.parse(x, "bb");
        CHECK.due("least of none", x.least(), 0);
        Check.parse(x, "ba");
        CHECK.due("least of a root again", x.least(), 2);
        Check.grammar(x, "S=a;");
        CHECK.due("least of no input", x.least(), 0);
    }

    private static void fewestNodes() {
        least("the root alone", "S=;", "", 1);
        least("the root alone", "S=a;", "a", 1);
        least("the root alone", "S=abcdefghijklmn;", "abcdefghijklmn", 1);
        least("one more", "S=T;T=;", "", 2);
        least("a chain of 20", "A=B;B=C;C=D;D=E;E=F;F=G;G=H;H=I;I=J;J=K;K=L;L=M;M=N;N=O;O=P;P=Q;Q=R;R=S;S=T;T=a;", "a",
                20);
        least("14 letters", "S=aS|;", "a".repeat(14), 15);
    }

    /** "Its SIZE is how many symbol nodes a tree has, again each time". */
    private static void nodesCountAgainEachTime() {
        least("a node twice", "S=TT;T=;", "", 3);
        least("a node 149 times", "S=" + "T".repeat(149) + ";T=;", "", 150);
        least("a node in a node, each twice", "S=TT;T=UU;U=;", "", 7);
        least("inner nodes don't count", "S=aTbTc;T=;", "abc", 3);
    }

    /** "(what is more than 10^9 counts as that)": less, as much, and more. */
    private static void sizesAtTheMost() {
        least("10^9 - 3", "S=" + LESS_4 + ";" + ONES, "", MOST_IN_TREE - 3);
        least("10^9 - 2", "S=" + LESS_3 + ";" + ONES, "", MOST_IN_TREE - 2);
        least("10^9 - 1", "S=" + LESS_2 + ";" + ONES, "", MOST_IN_TREE - 1);
        least("10^9", "S=" + LESS_1 + ";" + ONES, "", MOST_IN_TREE);
        least("10^9 + 1", "S=" + LESS_1 + "J;" + ONES, "", MOST_IN_TREE);
        least("10^9 - 1 with a part of 10^9 - 2", "S=T;T=" + LESS_3 + ";" + ONES, "", MOST_IN_TREE - 1);
        least("10^9 with a part of 10^9 - 1", "S=T;T=" + LESS_2 + ";" + ONES, "", MOST_IN_TREE);
        least("10^9 + 1 with a part of 10^9", "S=T;T=" + LESS_1 + ";" + ONES, "", MOST_IN_TREE);
        least("1111111111", "S=A;" + TEN_OF_THEM, "", MOST_IN_TREE);
        least("much more", "S=AAAAAAAAAA;" + TEN_OF_THEM, "", MOST_IN_TREE);
    }

    /** SIZES that are small, or less than 0, in 32 bits. */
    private static void sizesThatWrapAround() {
        String small = "AAABBBBBBBBCCCCCCDDDDDEEEEFFFFFFFHHHHHIIIIIIIJJJJJ";
        String negative = "ABBBBBBBBBCCCDDEEEEEEEFFFGGGGGHHIIIIIIIIIJ";
        for (String parts : new String[] {small, negative}) {
            least("alone", "S=" + parts + ";" + TEN_OF_THEM, "", MOST_IN_TREE);
            Subject x = Check.with("S=X|JJJJJJJ;X=" + parts + ";" + TEN_OF_THEM, "");
            CHECK.due("beside 8 nodes", x.least(), 8);
            CHECK.due("the alternate of 8 nodes", x.step(0, 0), 1);
        }
        for (int times = 1; times <= 10; times++) {
            least(times + " times the most", "S=" + "T".repeat(times) + ";T=AA;" + TEN_OF_THEM, "", MOST_IN_TREE);
            least(times + " times the most or 2", "S=" + "T".repeat(times) + "|J;T=AA;" + TEN_OF_THEM, "", 2);
        }
    }

    private static void circlesAreNoLeastTrees() {
        steps("S=S|a;", "a", "1,0,1");
        steps("S=a|S;", "a", "0,0,1");
        steps("S=SS|a|;", "", "2,0,0");
        steps("S=SS|a|;", "aa", "0,0,2 1,0,1 1,1,2");
        steps("S=T;T=U;U=S|T|U|a;", "a", "0,0,1 1,0,1 5,0,1");
        least("a circle beside many nodes", "S=S|" + "T".repeat(100) + ";T=;", "", 101);
        least("a circle of two beside many nodes", "S=T;T=S|" + "U".repeat(100) + ";U=;", "", 102);
        least("from the last to the first", "S=R;R=A|Q;Q=P;P=O;O=N;N=M;M=L;L=K;K=J;J=I;I=H;H=G;G=F;F=E;E=D;D=C;C=B;"
                + "B=R|a;A=S;", "a", 18);
    }

    // ---- "THE LEAST TREE of a node"

    private static void steps(String grammar, String input, String want) {
        Subject x = Check.with(grammar, input);
        StringBuilder got = new StringBuilder();
        for (int k = 0; k < 500 && x.step(k, 0) != NONE; k++) {
            got.append(k > 0 ? " " : "").append(x.step(k, 0)).append(',').append(x.step(k, 1)).append(',')
                    .append(x.step(k, 2));
        }
        CHECK.due(grammar + " " + input + " steps", got, want);
    }

    /** "that one with which its tree has the least SIZE". */
    private static void leastSizeFirst() {
        steps("S=T|a;T=a;", "a", "1,0,1");
        steps("S=TT|T|a;T=a|;", "a", "2,0,1");
        steps("S=TT|T|b;T=a|;", "a", "1,0,1 3,0,1");
        steps("S=T|U;T=V;U=a;V=a;", "a", "1,0,1 3,0,1");
        steps("S=TTa|Ta|UUUU;T=;U=a|;", "a", "1,0,1 3,0,0");
    }

    /** "of such the least alternate": whatever its pivot is. */
    private static void thenTheLeastAlternate() {
        steps("S=a|a;", "a", "0,0,1");
        steps("S=T|a|a;T=a;", "a", "1,0,1");
        steps("S=T|U;T=a;U=a;", "a", "0,0,1 2,0,1");
        steps("S=U|T;T=a;U=a;", "a", "0,0,1 3,0,1");
        steps("S=TU|UT;T=a;U=;", "a", "0,0,1 2,0,1 3,1,1");
        steps("S=UT|TU;T=a;U=;", "a", "0,0,1 3,0,0 2,0,1");
    }

    /** "then that with the least in it": whatever its pivot is. */
    private static void thenTheLeastInIt() {
        steps("S=TU;T=a|aa;U=W|a;W=aa;", "aaa", "0,0,3 2,0,2 4,2,3");
        steps("S=TU;T=a|W;U=aa|a;W=aa;", "aaa", "0,0,3 1,0,1 3,1,3");
        steps("S=TU;T=a|aa|W;U=a|aa|V;V=W;W=aaa;", "aaaa", "0,0,4 2,0,2 5,2,4");
    }

    /** "then the least pivot". */
    private static void thenTheLeastPivot() {
        steps("S=XX;X=|a|aa|aaa;", "aaa", "0,0,3 1,0,0 4,0,3");
        steps("S=XX;X=aaa|aa|a|;", "aaa", "0,0,3 4,0,0 1,0,3");
        steps("S=XX;X=a|aa;", "aaa", "0,0,3 1,0,1 2,1,3");
        steps("S=XX;X=|" + "a".repeat(14) + "|" + "a".repeat(7) + ";", "a".repeat(14), "0,0,14 1,0,0 2,0,14");
    }

    /** "likewise within inner nodes". */
    private static void likewiseWithinInnerNodes() {
        steps("S=XXX;X=|a|aa|aaa;", "aaa", "0,0,3 1,0,0 1,0,0 4,0,3");
        steps("S=XXb;X=|a|aa;", "aab", "0,0,3 1,0,0 3,0,2");
        steps("S=XXbb;X=|a|aa;", "aabb", "0,0,4 1,0,0 3,0,2");
        steps("S=TUb;T=a|aa;U=W|a;W=aa;", "aaab", "0,0,4 2,0,2 4,2,3");
        steps("S=TUb;T=a|W;U=aa|a;W=aa;", "aaab", "0,0,4 1,0,1 3,1,3");
        steps("S=TUT;T=a|;U=a|aa;", "aaa", "0,0,3 2,0,0 4,0,2 1,2,3");
    }

    private static void first(String about, String grammar, int alternate) {
        CHECK.due(about, Check.with(grammar + ONES, "").step(0, 0), alternate);
    }

    /** With S=XY; or S=XYb; and a, the pivot 0 has Y's parts and 2 in it, the pivot 1 X's parts and 2. */
    private static void pivot(String about, String ofX, String ofY, int want) {
        String parts = "X=|a" + ofX + ";Y=|a" + ofY + ";" + ONES;
        CHECK.due(about, Check.with("S=XY;" + parts, "a").step(1, 2), want);
    }

    private static void innerPivot(String about, String ofX, String ofY, int want) {
        String parts = "X=|a" + ofX + ";Y=|a" + ofY + ";" + ONES;
        CHECK.due(about + " in an inner node", Check.with("S=XYb;" + parts, "ab").step(1, 2), want);
    }

    /** "(compared as they count), [..] (without the node itself, as that counts)". */
    private static void mostIsComparedAsItCounts() {
        first("10^9 - 1, 10^9 - 2", "S=" + LESS_2 + "|" + LESS_3 + ";", 1);
        first("10^9, 10^9 - 1", "S=" + LESS_1 + "|" + LESS_2 + ";", 1);
        first("10^9 + 1, 10^9", "S=" + LESS_1 + "J|" + LESS_1 + ";", 0);
        first("10^9 + 2, 10^9 + 1", "S=" + LESS_1 + "JJ|" + LESS_1 + "J;", 0);
        first("10^9 + 2, 10^9 - 1, 10^9", "S=" + LESS_1 + "JJ|" + LESS_2 + "|" + LESS_1 + ";", 1);
        pivot("10^9 - 1 and 10^9 - 2 in it", LESS_4, LESS_3, 1);
        pivot("10^9 and 10^9 - 1 in it", LESS_3, LESS_2, 1);
        pivot("10^9 + 1 and 10^9 in it", LESS_2, LESS_1, 0);
        pivot("10^9 + 2 and 10^9 + 1 in it", LESS_1, LESS_1 + "J", 0);
        pivot("10^9 - 1 and 10^9 in it", LESS_2, LESS_3, 0);
    }

    /** "(of which the SIZE is that of all in them)". */
    private static void mostWithinInnerNodes() {
        innerPivot("10^9 - 1 and 10^9 - 2", LESS_4, LESS_3, 1);
        innerPivot("10^9 and 10^9 - 1", LESS_3, LESS_2, 1);
        innerPivot("10^9 + 1 and 10^9", LESS_2, LESS_1, 0);
        innerPivot("10^9 + 2 and 10^9 + 1", LESS_1, LESS_1 + "J", 0);
        innerPivot("10^9 - 1 and 10^9", LESS_2, LESS_3, 0);
    }

    // ---- promise 15

    /** "each ahead of what is in it, from the left to the right". */
    private static void stepsInOrder() {
        steps("S=TUT;T=V;U=b;V=a;", "aba", "0,0,3 1,0,1 3,0,1 2,1,2 1,2,3 3,2,3");
        steps("S=aSbS|;", "aabbab", "0,0,6 0,1,3 1,2,2 1,3,3 0,4,6 1,5,5 1,6,6");
        steps("S=aS|;", "aa", "0,0,2 0,1,2 1,2,2");
        steps("S=Sa|;", "aa", "0,0,2 0,0,1 1,0,0");
    }

    /** "Of symbol node k (from 0 on [..])"; "NONE if there is none such". */
    private static void stepsToTheLast() {
        for (int parts = 0; parts <= 20; parts++) {
            Subject x = Check.with("S=" + "T".repeat(parts) + ";T=;", "");
            CHECK.due("SIZE with " + parts, x.least(), parts + 1);
            CHECK.due("the last step of " + parts, x.step(parts, 0), parts == 0 ? 0 : 1);
            for (int what = 0; what < 3; what++) {
                CHECK.due("no step behind it " + parts, x.step(parts + 1, what), NONE);
                CHECK.due("no step ahead of the first " + parts, x.step(-1, what), NONE);
                for (int k : FAR) {
                    CHECK.due("step " + k + " of " + parts, x.step(k, what), NONE);
                }
            }
        }
        Subject x = Check.with("S=aS|;", "aaa");
        CHECK.due("the last of 4", x.step(3, 1), 3);
        Check.parse(x, "a");
        CHECK.due("the last of 2", x.step(1, 1), 1);
        CHECK.due("none of the 4 before", x.step(2, 1), NONE);
    }

    /** "(from 0 on, at most the first 500)". */
    private static void stepsUpTo500() {
        for (int size = 498; size <= 503; size++) {
            Subject x = Check.with("S=" + "T".repeat(99) + "U".repeat(size - 496) + "a;T=UUUU;U=;", "a");
            CHECK.due("SIZE " + size, x.least(), size);
            for (int k = 495; k <= 505; k++) {
                boolean told = k < size && k < 500;
                CHECK.due("step " + k + " of " + size, x.step(k, 0), told ? 2 : NONE);
                CHECK.due("step " + k + " of " + size + " from", x.step(k, 1), told ? 0 : NONE);
                CHECK.due("step " + k + " of " + size + " to", x.step(k, 2), told ? 0 : NONE);
            }
            CHECK.due("the last T of " + size, x.step(491, 0), 1);
        }
        Subject most = Check.with("S=AAAAAAAAAA;" + TEN_OF_THEM, "");
        int[] alternates = {0, 1, 2, 3, 4, 5, 6, 7, 8, 9, 10, 10, 10};
        for (int k = 0; k < alternates.length; k++) {
            CHECK.due("step " + k + " of the most", most.step(k, 0), alternates[k]);
        }
        CHECK.due("step 499 of the most", most.step(499, 0), 10);
        CHECK.due("step 500 of the most", most.step(500, 0), NONE);
    }

    private static void stepsWithoutRoot() {
        Subject refused = Check.with("S=a;");
        Check.parse(refused, "A");
        Subject[] all = {new Subject(), Check.with("S=;"), Check.with("S=a;", "b"), Check.with("S=S;", ""), refused};
        for (int t = 0; t < all.length; t++) {
            for (int what = -1; what <= 3; what++) {
                CHECK.due(t + ": step 0 " + what, all[t].step(0, what), NONE);
                CHECK.due(t + ": step -1 " + what, all[t].step(-1, what), NONE);
                CHECK.due(t + ": step 499 " + what, all[t].step(499, what), NONE);
            }
        }
    }

    /** "or for another what." */
    private static void stepOfAnotherWhat() {
        Subject x = Check.with("S=TT;T=a;", "aa");
        for (int k = -1; k <= 3; k++) {
            CHECK.due("step " + k + " 3", x.step(k, 3), NONE);
            for (int what : FAR) {
                CHECK.due("step " + k + " " + what, x.step(k, what), NONE);
            }
        }
        for (int k : FAR) {
            for (int what : FAR) {
                CHECK.due("step " + k + " " + what, x.step(k, what), NONE);
            }
        }
        int[] last = {1, 1, 2};
        for (int what = 0; what < 3; what++) {
            CHECK.due("step 2 " + what, x.step(2, what), last[what]);
        }
    }

    /** Nothing of one grammar's trees is left behind when another's are found. */
    private static void oneAfterAnother() {
        String[] grammars = {"S=a|a;", "S=S|a;", "S=" + "T".repeat(40) + "a;T=|;", "S=T|SS;T=a|b;",
            "S=U;T=a;U=T|V;V=T;", "S=b;"};
        long[] trees = {2, NONE, MOST_TREES, 1, 2, 0};
        int[] sizes = {1, 1, 41, 2, 3, 0};
        int[] ends = {0, 1, 0, 0, 0, NONE};
        for (int one = 0; one < grammars.length; one++) {
            for (int other = 0; other < grammars.length; other++) {
                Subject x = Check.with(grammars[one], "a");
                x.trees();
                x.step(0, 0);
                Check.grammar(x, grammars[other]);
                Check.parse(x, "a");
                String about = grammars[other] + " behind " + grammars[one];
                CHECK.due(about + ": trees", x.trees(), trees[other]);
                CHECK.due(about + ": least", x.least(), sizes[other]);
                CHECK.due(about + ": step", x.step(0, 0), ends[other]);
                CHECK.due(about + ": no more steps", x.step(sizes[other], 0), NONE);
            }
        }
    }
}
