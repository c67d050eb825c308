/**
 * The edges of a grammar's numbers and sets: the terms from NONTERMINALS to SELECT, and promises 5 to 7.
 * The words of the document that a test stands for are above it.
 */
public final class GrammarEdgeTest {
    private static final Check CHECK = new Check();
    private static final int NONE = SlotForest.NONE;
    private static final int[] EXTREMES = {Integer.MIN_VALUE, Integer.MIN_VALUE + 1, -1000, 1000, 1 << 16, 1 << 28,
        1 << 30, Integer.MAX_VALUE - 1, Integer.MAX_VALUE};
    private static final String LARGEST = largest();

    public static void main(String[] args) {
        namesInOrder();
        helpersInOrder();
        groupHelpers();
        signHelpers();
        slotsOfAlternates();
        sizeOfAnotherWhat();
        sizesAtFirstAndAtMost();
        nothingOfTheGrammarBefore();
        ruleEnds();
        ruleOfTheLargest();
        ruleWithoutGrammar();
        nullableEdges();
        firstEdges();
        followEdges();
        followAside();
        followOfAllBehind();
        selectEdges();
        apartEdges();
        setOfAnotherWhat();
        setOfNoNumber();
        CHECK.end();
    }

    /** 20 nonterminals, 48 alternates and 150 symbols. */
    private static String largest() {
        StringBuilder text = new StringBuilder();
        for (int y = 0; y < 20; y++) {
            text.append((char) ('A' + y)).append(y < 8 ? "=|a|" : "=|").append("abcdefg;");
        }
        return text.insert(2, "zz").toString();
    }

    private static String rules(Subject x) {
        StringBuilder all = new StringBuilder();
        for (int a = 0; a < x.size(2); a++) {
            all.append(a > 0 ? " " : "").append(x.rule(a, -1)).append(':');
            for (int k = 0; x.rule(a, k) != NONE; k++) {
                int symbol = x.rule(a, k);
                all.append(k > 0 ? "," : "").append(symbol >= 0 ? "" + symbol : letters(-2 - symbol));
            }
        }
        return all.toString();
    }

    private static String letters(int bits) {
        StringBuilder all = new StringBuilder();
        for (int letter = 0; letter < 26; letter++) {
            all.append((bits >> letter & 1) != 0 ? "" + (char) ('a' + letter) : "");
        }
        return all.toString();
    }

    private static void hasRules(String text, String want) {
        CHECK.due(text, rules(Check.with(text)), want);
    }

    // ---- numbers

    /** "the NAMES in the order of their rules (the first one is START)". */
    private static void namesInOrder() {
        hasRules("Z=AMZ;M=;A=Z;", "0:2,1,0 1: 2:0");
        hasRules("B=CA;C=c;A=a;", "0:1,2 1:c 2:a");
        CHECK.due("the first rule's name is START", Check.parse(Check.with("Z=z;A=a;"), "z"), true);
        CHECK.due("no other is", Check.parse(Check.with("Z=z;A=a;"), "a"), false);
    }

    /** "then the HELPERS in the order in which the characters stand that end them". */
    private static void helpersInOrder() {
        hasRules("S=(a)(b);", "0:1,2 1:a 2:b");
        hasRules("S=((a)b);", "0:2 1:a 2:1,b");
        hasRules("S=(a*b);", "0:2 1:a,1 1: 2:1,b");
        hasRules("S=(a)*;", "0:2 1:a 2:1,2 2:");
        hasRules("S=a+(b)?;", "0:1,3 1:a,1 1:a 2:b 3:2 3:");
        hasRules("S=T?;T=(a);", "0:2 1:3 2:1 2: 3:a");
    }

    /** "a ) makes one whose ALTERNATES are the sequences of its CHOICE". */
    private static void groupHelpers() {
        hasRules("S=();", "0:1 1:");
        hasRules("S=(|);", "0:1 1: 1:");
        hasRules("S=(a|bc|);", "0:1 1:a 1:b,c 1:");
        hasRules("S=x(a|(b|c)d|)y|z;", "0:x,2,y 0:z 1:b 1:c 2:a 2:1,d 2:");
        hasRules("S=((((((a))))));", "0:6 1:a 2:1 3:2 4:3 5:4 6:5");
    }

    /** "x* one, H: x H, and the empty one; x+ H: x H, and x; x? x, and the empty one." */
    private static void signHelpers() {
        hasRules("S=a*;", "0:1 1:a,1 1:");
        hasRules("S=a+;", "0:1 1:a,1 1:a");
        hasRules("S=a?;", "0:1 1:a 1:");
        hasRules("S=S*;", "0:1 1:0,1 1:");
        hasRules("S=S+;", "0:1 1:0,1 1:0");
        hasRules("S=S?;", "0:1 1:0 1:");
        hasRules("S=[a-c]*b;", "0:1,b 1:abc,1 1:");
        hasRules("S=[ab][c]x[d-e][d];", "0:ab,c,x,de,d");
        hasRules("S=x[a-c]+|y;", "0:x,1 0:y 1:abc,1 1:abc");
    }

    /** "A SLOT is a place in an alternate: ahead of its first symbol, .. , behind its last one". */
    private static void slotsOfAlternates() {
        Subject x = Check.with("S=ab||c;T=d;");
        String[] select = {"a", "b", "$", "$", "c", "$", "d", ""};
        for (int s = 0; s < select.length; s++) {
            CHECK.due("SELECT of slot " + s, x.set(3, s), Check.bits(select[s]));
        }
        CHECK.due("no slot behind the last", x.set(3, select.length), NONE);
        CHECK.due("no slot ahead of the first", x.set(3, -1), NONE);
    }

    // ---- promise 5

    /** "NONE for another what." */
    private static void sizeOfAnotherWhat() {
        for (Subject x : new Subject[] {new Subject(), Check.with("S=a;"), Check.with(LARGEST)}) {
            CHECK.due("size -1", x.size(-1), NONE);
            CHECK.due("size 4", x.size(4), NONE);
            for (int what : EXTREMES) {
                CHECK.due("size " + what, x.size(what), NONE);
            }
        }
    }

    private static void sizesAtFirstAndAtMost() {
        String[] texts = {"S=;", "S=a;", LARGEST, "S=" + "a?".repeat(19) + ";", "S=S;T=(U|)+;U=;"};
        int[][] want = {{1, 1, 1, 0}, {1, 1, 1, 1}, {20, 20, 48, 150}, {20, 1, 39, 38}, {5, 3, 7, 6}};
        for (int what = 0; what < 4; what++) {
            CHECK.due("size at first " + what, new Subject().size(what), 0);
            for (int t = 0; t < texts.length; t++) {
                CHECK.due(texts[t] + " size " + what, Check.with(texts[t]).size(what), want[t][what]);
            }
        }
    }

    /** Nothing of one text is left behind when another is read. */
    private static void nothingOfTheGrammarBefore() {
        String[] texts = {LARGEST, "S=;", "S=a*b;T=S?;", "S=((((((a", "S=((", "S=[a-", "S=[a-f", "S=a;S=b;", "S=((T));",
            "S=" + "(a)".repeat(30) + ";", "S=[a-c][d](e|f)+;", "Z=y;"};
        for (String text : texts) {
            for (String before : texts) {
                Subject x = untouched(before);
                String fresh = Check.grammar(new Subject(), text);
                CHECK.due("grammar " + text + " behind " + before, Check.grammar(x, text), fresh);
                Subject same = untouched(fresh.startsWith("Ill") ? before : text);
                CHECK.due(text + " behind " + before, Check.answers(x), Check.answers(same));
            }
        }
    }

    private static Subject untouched(String text) {
        Subject x = new Subject();
        Check.grammar(x, text);
        return x;
    }

    // ---- promise 6

    /** "The nonterminal of an alternate (k = -1); its symbol k, from 0 on [..]; NONE if there is none such." */
    private static void ruleEnds() {
        Subject x = Check.with("S=ab||Tc;T=d;");
        int[] lengths = {2, 0, 2, 1};
        for (int a = -2; a <= 5; a++) {
            boolean is = a >= 0 && a < 4;
            CHECK.due("rule " + a + ", -1", x.rule(a, -1), is ? a / 3 : NONE);
            CHECK.due("rule " + a + ", -2", x.rule(a, -2), NONE);
            for (int k = 0; k < 6; k++) {
                CHECK.due("rule " + a + ", " + k + " is there", x.rule(a, k) != NONE, is && k < lengths[a]);
            }
            for (int far : EXTREMES) {
                CHECK.due("rule " + a + ", " + far, x.rule(a, far), NONE);
                CHECK.due("rule " + far + ", " + a, x.rule(far, a), NONE);
            }
        }
        for (int far : EXTREMES) {
            for (int k : EXTREMES) {
                CHECK.due("rule " + far + ", " + k, x.rule(far, k), NONE);
            }
        }
        CHECK.due("a nonterminal's number", x.rule(2, 0), 1);
        CHECK.due("START's number", Check.with("S=S;").rule(0, 0), 0);
        CHECK.due("-2 less the least SET", Check.with("S=a;").rule(0, 0), -3);
        CHECK.due("-2 less z", Check.with("S=z;").rule(0, 0), -2 - (1 << 25));
        CHECK.due("-2 less all", Check.with("S=[a-z];").rule(0, 0), -2 - ((1 << 26) - 1));
    }

    private static void ruleOfTheLargest() {
        Subject x = Check.with(LARGEST);
        CHECK.due("the last alternate", x.rule(47, -1), 19);
        CHECK.due("its last symbol", x.rule(47, 6), -2 - Check.bits("g"));
        CHECK.due("behind its last symbol", x.rule(47, 7), NONE);
        CHECK.due("behind the last alternate", x.rule(48, -1), NONE);
        Subject wide = Check.with("S=a" + "b".repeat(148) + "c;");
        CHECK.due("symbol 0", wide.rule(0, 0), -2 - Check.bits("a"));
        CHECK.due("symbol 149", wide.rule(0, 149), -2 - Check.bits("c"));
        CHECK.due("symbol 150", wide.rule(0, 150), NONE);
        Subject high = Check.with("S=a" + "|".repeat(46) + "|b;");
        CHECK.due("alternate 47", high.rule(47, 0), -2 - Check.bits("b"));
        CHECK.due("alternate 48", high.rule(48, 0), NONE);
        Check.grammar(x, "S=a;");
        CHECK.due("no alternate of the largest", x.rule(1, -1), NONE);
        CHECK.due("no symbol of the largest", x.rule(0, 1), NONE);
    }

    private static void ruleWithoutGrammar() {
        for (int a = -1; a <= 1; a++) {
            for (int k = -2; k <= 1; k++) {
                CHECK.due("no rule " + a + ", " + k, new Subject().rule(a, k), NONE);
            }
        }
    }

    // ---- promise 7

    private static void sets(String text, int what, int... want) {
        Subject x = Check.with(text);
        for (int number = 0; number < want.length; number++) {
            CHECK.due(text + " set " + what + " of " + number, x.set(what, number), want[number]);
        }
    }

    /** "NULLABLE is what can become nothing." */
    private static void nullableEdges() {
        sets("S=;", 0, 1);
        sets("S=a;", 0, 0);
        sets("S=a|;", 0, 1);
        sets("S=S;", 0, 0);
        sets("S=S|;", 0, 1);
        sets("S=TT;T=;", 0, 1, 1);
        sets("S=TaT;T=;", 0, 0, 1);
        sets("S=TTTTTTTTU;T=;U=a;", 0, 0, 1, 0);
        sets("S=a*b+c?;", 0, 0, 1, 0, 1);
        sets("A=B;B=C;C=D;D=E;E=F;F=G;G=;", 0, 1, 1, 1, 1, 1, 1, 1);
        sets("A=;B=A;C=B;D=CZ;Z=Z;", 0, 1, 1, 1, 0, 0);
    }

    /** "FIRST of something: the letters with which it can begin." */
    private static void firstEdges() {
        sets("S=;", 1, 0);
        sets("S=a;", 1, 1);
        sets("S=z;", 1, 1 << 25);
        sets("S=[a-z];", 1, (1 << 26) - 1);
        sets("S=Ta;T=;", 1, Check.bits("a"), 0);
        sets("S=TTa;T=|b;", 1, Check.bits("ab"), Check.bits("b"));
        sets("S=Ta;T=b;", 1, Check.bits("b"), Check.bits("b"));
        sets("S=Sa|b;", 1, Check.bits("b"));
        sets("S=Sa|b|;", 1, Check.bits("ab"));
        sets("A=Ba;B=Cb|;C=Dc|;D=Ed|;E=|e;", 1, Check.bits("abcde"), Check.bits("bcde"), Check.bits("cde"),
                Check.bits("de"), Check.bits("e"));
    }

    /** "and END (bit 26) if it can be the last; START has END". */
    private static void followEdges() {
        sets("S=;", 2, 1 << 26);
        sets("S=S;", 2, 1 << 26);
        sets("S=Sa;", 2, Check.bits("a$"));
        sets("S=Ta;T=;", 2, Check.bits("$"), Check.bits("a"));
        sets("S=aT;T=;", 2, Check.bits("$"), Check.bits("$"));
        sets("S=T[a-z];T=;", 2, Check.bits("$"), (1 << 26) - 1);
        sets("S=TT;T=a|;", 2, Check.bits("$"), Check.bits("a$"));
        sets("S=TT;T=a;", 2, Check.bits("$"), Check.bits("a$"));
        sets("S=TU;T=a;U=b;", 2, Check.bits("$"), Check.bits("b"), Check.bits("$"));
        sets("S=a*z;", 2, Check.bits("$"), Check.bits("z"));
    }

    /** "Whether START ever leads to an alternate does not matter." */
    private static void followAside() {
        sets("S=a;T=Sb;", 2, Check.bits("b$"), 0);
        sets("S=a;T=U;U=ST;", 2, Check.bits("a$"), 0, 0);
        sets("S=T;T=;U=Tc;V=UdS;", 2, Check.bits("$"), Check.bits("c$"), Check.bits("d"), 0);
        sets("S=TyVx;T=W;V=T;W=;", 2, Check.bits("$"), Check.bits("xy"), Check.bits("x"), Check.bits("xy"));
        sets("S=a;T=b*;", 2, Check.bits("$"), 0, 0);
    }

    /** "FIRST of what is behind it in each alternate, and, if all behind it is NULLABLE, FOLLOW of [..]". */
    private static void followOfAllBehind() {
        sets("S=Ux;U=TAAAb;T=;A=|a;", 2, Check.bits("$"), Check.bits("x"), Check.bits("ab"));
        sets("S=Ux;U=TAAA;T=;A=|a;", 2, Check.bits("$"), Check.bits("x"), Check.bits("ax"));
        sets("S=Ux;U=TAaA;T=;A=|c;", 2, Check.bits("$"), Check.bits("x"), Check.bits("ac"), Check.bits("ax"));
        sets("S=Ux;U=TA;T=;A=|Ac;", 2, Check.bits("$"), Check.bits("x"), Check.bits("cx"), Check.bits("cx"));
        sets("S=Ux;U=TA;T=;A=c;", 2, Check.bits("$"), Check.bits("x"), Check.bits("c"), Check.bits("x"));
    }

    /** "SELECT of a slot: FIRST of what is behind it [..], and, if that is NULLABLE, FOLLOW". */
    private static void selectEdges() {
        sets("S=aTT;T=b|;", 3, Check.bits("a"), Check.bits("b$"), Check.bits("b$"), Check.bits("$"), Check.bits("b"),
                Check.bits("b$"), Check.bits("b$"));
        sets("S=TTa;T=b|;", 3, Check.bits("ab"), Check.bits("ab"), Check.bits("a"), Check.bits("$"));
        sets("S=|S;", 3, Check.bits("$"), Check.bits("$"), Check.bits("$"));
        sets("S=a;T=b|;", 3, Check.bits("a"), Check.bits("$"), Check.bits("b"), 0, 0);
        sets("S=T;T=T;", 3, 0, Check.bits("$"), 0, Check.bits("$"));
        sets("S=[a-z]S|;", 3, (1 << 26) - 1, (1 << 27) - 1, Check.bits("$"), Check.bits("$"));
    }

    /** "1 if no two first slots of its alternates have SELECTS with something in common, else 0 (4)". */
    private static void apartEdges() {
        sets("S=;", 4, 1);
        sets("S=a;", 4, 1);
        sets("S=a|b;", 4, 1);
        sets("S=a|a;", 4, 0);
        sets("S=a|;", 4, 1);
        sets("S=|;", 4, 0);
        sets("S=a|b|a;", 4, 0);
        sets("S=a|b|c|[x-z]|;", 4, 1);
        sets("S=a|b|c|[x-z]|z;", 4, 0);
        sets("S=a|b|c|[ax]|;", 4, 0);
        sets("S=Ta;T=|a;", 4, 1, 0);
        sets("S=Tb;T=|a;", 4, 1, 1);
        sets("S=a;T=|;", 4, 1, 1);
        sets("S=T|T;T=T;", 4, 1, 1);
        sets("S=a|aa;T=b|c;", 4, 0, 1);
    }

    /** "NONE for another what". */
    private static void setOfAnotherWhat() {
        for (Subject x : new Subject[] {new Subject(), Check.with("S=a;"), Check.with(LARGEST)}) {
            for (int number = -1; number <= 2; number++) {
                CHECK.due("set -1 of " + number, x.set(-1, number), NONE);
                CHECK.due("set 5 of " + number, x.set(5, number), NONE);
                for (int what : EXTREMES) {
                    CHECK.due("set " + what + " of " + number, x.set(what, number), NONE);
                }
            }
        }
    }

    /** "or if there is no x". */
    private static void setOfNoNumber() {
        Subject[] all = {new Subject(), Check.with("S=a;"), Check.with(LARGEST),
            Check.with("S=" + "a".repeat(150) + ";")};
        int[] nonterminals = {0, 1, 20, 1};
        int[] slots = {0, 2, 198, 151};
        for (int t = 0; t < all.length; t++) {
            for (int what = 0; what < 5; what++) {
                int known = what == 3 ? slots[t] : nonterminals[t];
                CHECK.due(t + ": set " + what + " of -1", all[t].set(what, -1), NONE);
                CHECK.due(t + ": set " + what + " of the last", all[t].set(what, known - 1) != NONE, known > 0);
                CHECK.due(t + ": set " + what + " behind the last", all[t].set(what, known), NONE);
                for (int far : EXTREMES) {
                    CHECK.due(t + ": set " + what + " of " + far, all[t].set(what, far), NONE);
                }
            }
        }
        Subject x = Check.with(LARGEST);
        Check.grammar(x, "S=a;");
        for (int what = 0; what < 5; what++) {
            CHECK.due("set " + what + " behind the largest", x.set(what, what == 3 ? 2 : 1), NONE);
        }
    }
}
