/**
 * The edges of inputs, descriptors and the forest's nodes: the terms from AN INPUT to USEFUL, and promises
 * 1 and 8 to 12. The words of the document that a test stands for are above it.
 */
public final class InputEdgeTest {
    private static final Check CHECK = new Check();
    private static final int NONE = SlotForest.NONE;
    private static final String BAD = "IllegalArgumentException";
    private static final String NO_GRAMMAR = "IllegalStateException";
    /** All but START and the last one are empty; the last one covers the input. */
    private static final String MOST_NONTERMINALS = "A=BCDEFGHIJKLMNOPQRST;B=;C=;D=;E=;F=;G=;H=;I=;J=;K=;L=;M=;N=;O=;"
            + "P=;Q=;R=;S=;T=aT|;";
    /** No place, slot or nonterminal of any small grammar; some are one by their lowest bits. */
    private static final int[] FAR = {Integer.MIN_VALUE, Integer.MIN_VALUE + 1, -225, -33, -32, -31, -16, -15, -1, 15,
        16, 31, 32, 33, 64, 225, 256, 1 << 16, 1 << 28, 1 << 30, Integer.MAX_VALUE - 1, Integer.MAX_VALUE};

    public static void main(String[] args) {
        stateAtFirst();
        noInputWithANewGrammar();
        parseWithoutGrammar();
        parseOfNothingButLetters();
        parseOfUpTo14();
        parseEmptiesTheTape();
        inputBeforeStays();
        noInputStaysNone();
        blanksInInputs();
        endStandsAtN();
        oneAfterAnother();
        triedAndReached();
        reachedOverAll();
        reachedOfNoPlace();
        reachedOfTheLargest();
        lookedWithoutInput();
        lookedOfAnotherWhat();
        furthestAtTheEnds();
        expectedAtTheEnds();
        countOfAnotherWhat();
        countWithoutInput();
        countsOfTheFewest();
        callsCountTheStart();
        innerNodesByLength();
        packedOfEmptyAlternates();
        packedByPivots();
        packedOfNoNode();
        usefulOrNot();
        atLeastTwoPacked();
        largestForest();
        CHECK.end();
    }

    /** Without an input "it is as not accepted, and nothing is reached or tried". */
    private static void nothingIsRead(String about, Subject x) {
        for (int what = 0; what < 8; what++) {
            CHECK.due(about + ": count " + what, x.count(what), 0);
        }
        CHECK.due(about + ": FURTHEST", x.looked(0), NONE);
        CHECK.due(about + ": EXPECTED", x.looked(1), NONE);
        CHECK.due(about + ": trees", x.trees(), 0);
        CHECK.due(about + ": least", x.least(), 0);
        for (int what = 0; what < 3; what++) {
            CHECK.due(about + ": step 0 " + what, x.step(0, what), NONE);
        }
        for (int row = 0; row < 4; row++) {
            for (int k = 0; k < 4; k++) {
                CHECK.due(about + ": reached " + row + " 0 " + k, x.reached(row, 0, k), false);
                CHECK.due(about + ": packed " + row + " 0 " + k, x.packed(row, 0, k), 0);
            }
        }
    }

    /** Promise 1, and "At first there is no grammar". */
    private static void stateAtFirst() {
        Subject x = new Subject();
        nothingIsRead("a new object", x);
        CHECK.due("no fault", x.fault(0), 0);
        CHECK.due("no place", x.fault(1), 0);
        for (int what = 0; what < 5; what++) {
            CHECK.due("no size " + what, x.size(what), what < 4 ? 0 : NONE);
            CHECK.due("no set " + what, x.set(what, 0), NONE);
        }
        CHECK.due("no rule", x.rule(0, -1), NONE);
        CHECK.due("the tape is empty: parse", Check.parse(x, ""), NO_GRAMMAR);
        CHECK.due("the tape is empty: grammar", Check.grammar(x, ""), BAD);
        CHECK.due("its length", x.fault(1), 0);
        nothingIsRead("an object still without a grammar", x);
    }

    /** "a new one leaves no input. Without an input it is as not accepted, and nothing is reached or tried." */
    private static void noInputWithANewGrammar() {
        nothingIsRead("a grammar alone", Check.with("S=SS|a|;"));
        for (String input : new String[] {"", "aa", "ab", "aaaaaaaaaaaaaa"}) {
            for (String text : new String[] {"S=SS|a|;", "S=;", "S=a*;", "S=b;"}) {
                Subject x = Check.with("S=SS|a|;", input);
                x.trees();
                x.step(0, 0);
                x.count(7);
                Check.grammar(x, text);
                nothingIsRead(text + " behind " + input, x);
                Subject unused = Check.with(text);
                CHECK.due(text + " as on a new object", Check.answers(x), Check.answers(unused));
            }
        }
    }

    // ---- promise 8

    /** "IllegalStateException: there is no grammar"; "(which is empty then, but with an IllegalStateException)". */
    private static void parseWithoutGrammar() {
        for (String text : new String[] {"", "a", "S=a;", "aaaaaaaaaaaaaaa", "~", " ".repeat(400)}) {
            Subject x = new Subject();
            CHECK.due("parse " + text + " without a grammar", Check.parse(x, text), NO_GRAMMAR);
            CHECK.due("parse " + text + " again", Check.parse(x, ""), NO_GRAMMAR);
            nothingIsRead("behind parse " + text, x);
            CHECK.due("no fault by parse " + text, x.fault(0), 0);
            Subject unread = new Subject();
            CHECK.due("the tape " + text + " stays", Check.grammar(x, ""), Check.grammar(unread, text));
            CHECK.due("with its fault", x.fault(0), unread.fault(0));
            CHECK.due("with its place", x.fault(1), unread.fault(1));
        }
        Subject full = Check.untold("S=a;" + " ".repeat(396));
        CHECK.due("a full tape", Check.parse(full, ""), NO_GRAMMAR);
        CHECK.due("stays full", full.type(' ', 1), false);
        Subject x = new Subject();
        Check.parse(x, "S=");
        Check.parse(x, "ab");
        CHECK.due("the tape grows", Check.grammar(x, ";"), 3);
        CHECK.due("with a grammar", Check.parse(x, "ab"), true);
        Check.grammar(x, "!");
        CHECK.due("with the grammar before", Check.parse(x, "ab"), true);
    }

    /** "IllegalArgumentException: there is something but letters": every character at every end. */
    private static void parseOfNothingButLetters() {
        for (int c = 33; c <= 126; c++) {
            boolean letter = c >= 'a' && c <= 'z';
            Subject x = Check.with("S=[a-z]*;");
            for (String text : new String[] {"" + (char) c, "ab" + (char) c, (char) c + "ab", "a " + (char) c + " b"}) {
                CHECK.due("parse " + text, Check.parse(x, text), letter ? "true" : BAD);
            }
        }
    }

    /** "or there are more than 14"; "AN INPUT has n letters, 0 .. 14". */
    private static void parseOfUpTo14() {
        for (int n = 0; n <= 20; n++) {
            Subject x = Check.with("S=a*;");
            CHECK.due("parse of " + n, Check.parse(x, "a".repeat(n)), n <= 14 ? "true" : BAD);
            CHECK.due("FURTHEST of " + n, x.looked(0), n <= 14 ? n : NONE);
            CHECK.due("to where of " + n, x.step(0, 2), n <= 14 ? n : NONE);
            Subject wide = Check.with("S=a*;");
            CHECK.due("parse of wide " + n, Check.parse(wide, "a ".repeat(n) + " ".repeat(400 - 2 * n)),
                    n <= 14 ? "true" : BAD);
        }
        CHECK.due("parse of 400", Check.parse(Check.with("S=a*;"), "a".repeat(400)), BAD);
        CHECK.due("15 with a fault", Check.parse(Check.with("S=a*;"), "a".repeat(15) + "~"), BAD);
        CHECK.due("14 with a fault", Check.parse(Check.with("S=a*;"), "a".repeat(14) + "~"), BAD);
        CHECK.due("14 that are not accepted", Check.parse(Check.with("S=a*;"), "a".repeat(13) + "b"), false);
    }

    private static void parseEmptiesTheTape() {
        for (String text : new String[] {"a", "b", "", "A", "aaaaaaaaaaaaaaa"}) {
            Subject x = Check.with("S=a;");
            Check.parse(x, text);
            CHECK.due("an empty tape behind " + text, Check.parse(x, ""), false);
            CHECK.due("it is nothing", x.looked(0), 0);
            Check.parse(x, text);
            CHECK.due("an input behind " + text, Check.parse(x, "a"), true);
            Check.parse(x, text);
            CHECK.due("a grammar behind " + text, Check.grammar(x, "S=ab;"), 3);
        }
    }

    /** "(the input before stays)". */
    private static void inputBeforeStays() {
        for (String input : new String[] {"", "aaa", "aab", "b", "a".repeat(14)}) {
            String before = Check.answers(Check.with("S=SS|aT|;T=S|;", input));
            for (String text : new String[] {"A", "a1", "1a", "aaaaaaaaaaaaaaa", "bbbbbbbbbbbbbbbbbb~", "b b b;"}) {
                Subject x = Check.with("S=SS|aT|;T=S|;", input);
                CHECK.due("parse " + text, Check.parse(x, text), BAD);
                CHECK.due(input + " behind " + text, Check.answers(x), before);
                Subject asked = Check.with("S=SS|aT|;T=S|;", input);
                asked.trees();
                asked.least();
                asked.count(6);
                Check.parse(asked, text);
                CHECK.due(input + " asked ahead of " + text, Check.answers(asked), before);
            }
        }
        Subject x = Check.with("S=a;", "a");
        Check.grammar(x, "T=b;!");
        CHECK.due("no fault of an input", Check.parse(x, "A"), BAD);
        CHECK.due("the fault of the grammar", x.fault(1), 4);
    }

    private static void noInputStaysNone() {
        for (String text : new String[] {"A", "aaaaaaaaaaaaaaa", "a;"}) {
            Subject x = Check.with("S=a*;");
            CHECK.due("parse " + text, Check.parse(x, text), BAD);
            nothingIsRead("behind parse " + text, x);
        }
    }

    /** "is the input (blanks count for nothing)". */
    private static void blanksInInputs() {
        String bare = Check.answers(Check.with("S=ab*;", "abb"));
        for (String text : new String[] {" abb", "abb ", "a b b", "  a   b  b  ", " ".repeat(397) + "abb"}) {
            CHECK.due("input " + text, Check.answers(Check.with("S=ab*;", text)), bare);
        }
        String none = Check.answers(Check.with("S=ab*;", ""));
        for (int blanks = 1; blanks <= 400; blanks += 57) {
            CHECK.due(blanks + " blanks", Check.answers(Check.with("S=ab*;", " ".repeat(blanks))), none);
        }
    }

    /** "at n stands END." */
    private static void endStandsAtN() {
        for (int n = 0; n <= 14; n++) {
            Subject x = Check.with("S=[a-z]*;", "abcdefghijklmn".substring(0, n));
            for (int i = 0; i <= 14; i++) {
                CHECK.due("x* is empty from " + i + " of " + n, x.packed(1, i, i), i == n ? 1 : 0);
                CHECK.due("x* goes on from " + i + " of " + n, x.reached(2, i, i), i < n);
                CHECK.due("x* goes from " + i + " to " + n, x.packed(1, i, n), i <= n ? 1 : 0);
            }
        }
    }

    /** Nothing of one input is left behind in another, by the same grammar or by a new one. */
    private static void oneAfterAnother() {
        String[] grammars = {"S=SS|a|;", "S=TU;T=|a;U=a|b*;", "S=aTb|aUc|b;T=T|a|;U=a|;", "S=TU;T=a|aa;U=aa|b;"};
        String[] inputs = {"", "a", "aaa", "aac", "aab", "b", "aaaaaa", "aaaaaaaaaaaaaa", "ba", "c"};
        for (int one = 0; one < grammars.length * inputs.length; one++) {
            String grammar = grammars[one % grammars.length];
            String input = inputs[one / grammars.length];
            String fresh = Check.answers(Check.with(grammar, input));
            for (int other = 0; other < grammars.length * inputs.length; other++) {
                String otherGrammar = grammars[other % grammars.length];
                String otherInput = inputs[other / grammars.length];
                Subject x = Check.with(otherGrammar, otherInput);
                x.trees();
                x.step(0, 0);
                x.count(7);
                if (!grammar.equals(otherGrammar)) {
                    Check.grammar(x, grammar);
                }
                Check.parse(x, input);
                CHECK.due(grammar + " " + input + " behind " + otherGrammar + " " + otherInput, Check.answers(x),
                        fresh);
            }
        }
    }

    // ---- descriptors, promises 9 and 10

    private static String reachedIn(Subject x, int slots) {
        StringBuilder all = new StringBuilder();
        for (int s = 0; s < slots; s++) {
            for (int j = 0; j < 15; j++) {
                for (int i = 0; i < 15; i++) {
                    all.append(x.reached(s, j, i) ? " " + s + "," + j + "," + i : "");
                }
            }
        }
        return all.toString();
    }

    /** "A slot is TRIED at j, i; it is REACHED (a descriptor) if its SELECT has what stands at i." */
    private static void triedAndReached() {
        Subject x = Check.with("S=ab;", "a");
        CHECK.due("tried at the end, not reached", reachedIn(x, 3), " 0,0,0");
        CHECK.due("as far as it was tried", x.looked(0), 1);
        CHECK.due("what it lacked", x.looked(1), Check.bits("b"));
        Check.parse(x, "ab");
        CHECK.due("reached to the end", reachedIn(x, 3), " 0,0,0 1,0,1 2,0,2");
        Check.parse(x, "abb");
        CHECK.due("the last slot is tried only", reachedIn(x, 3), " 0,0,0 1,0,1");
        Check.parse(x, "b");
        CHECK.due("the first slot is tried only", reachedIn(x, 3), "");
        CHECK.due("at the beginning", x.looked(0), 0);
    }

    /** "the first slots of Y's alternates at i, i; and if a last slot of Y is reached at i, k: [..]". */
    private static void reachedOverAll() {
        CHECK.due("S=TT;T=|a; of nothing", reachedIn(Check.with("S=TT;T=|a;", ""), 6),
                " 0,0,0 1,0,0 2,0,0 3,0,0");
        CHECK.due("S=TT;T=|a; of a", reachedIn(Check.with("S=TT;T=|a;", "a"), 6),
                " 0,0,0 1,0,0 1,0,1 2,0,1 3,0,0 3,1,1 4,0,0 5,0,1");
        CHECK.due("S=Sa|; of aa", reachedIn(Check.with("S=Sa|;", "aa"), 4),
                " 0,0,0 1,0,0 1,0,1 2,0,1 2,0,2 3,0,0");
        CHECK.due("S=aS|; of aa", reachedIn(Check.with("S=aS|;", "aa"), 4),
                " 0,0,0 0,1,1 1,0,1 1,1,2 2,0,2 2,1,2 3,2,2");
    }

    /** "Whether a slot is reached at j, i": never where there is none such. */
    private static void reachedOfNoPlace() {
        Subject x = Check.with("S=TT;T=|a;", "a");
        for (int far : FAR) {
            for (int j = -1; j <= 2; j++) {
                for (int i = -1; i <= 2; i++) {
                    CHECK.due("reached " + far + " " + j + " " + i, x.reached(far, j, i), false);
                    CHECK.due("reached " + j + " " + far + " " + i, x.reached(j, far, i), false);
                    CHECK.due("reached " + j + " " + i + " " + far, x.reached(j, i, far), false);
                }
            }
            for (int other : FAR) {
                CHECK.due("reached 0 " + far + " " + other, x.reached(0, far, other), false);
                CHECK.due("reached " + far + " 0 " + other, x.reached(far, 0, other), false);
                CHECK.due("reached " + far + " " + other + " 0", x.reached(far, other, 0), false);
            }
        }
        for (int s = 0; s < 6; s++) {
            CHECK.due("slot " + s + " never from 1 to 0", x.reached(s, 1, 0), false);
            CHECK.due("slot " + s + " never behind the input", x.reached(s, 2, 2), false);
        }
        for (int beyond = 6; beyond <= 8; beyond++) {
            CHECK.due("slot " + beyond, x.reached(beyond, 0, 0), false);
        }
    }

    /** Slot 197 is the last there can be, 14 the last place. */
    private static void reachedOfTheLargest() {
        Subject x = Check.with("S=Z;Y=" + "|".repeat(44) + "b".repeat(147) + ";Z=aZ|;", "a".repeat(14));
        CHECK.due("the most slots", x.size(2) + x.size(3), 198);
        for (int j = 0; j <= 16; j++) {
            for (int i = 0; i <= 16; i++) {
                CHECK.due("slot 194 at " + j + " " + i, x.reached(194, j, i), i == j && i < 14);
                CHECK.due("slot 195 at " + j + " " + i, x.reached(195, j, i), i == j + 1 && i <= 14);
                CHECK.due("slot 196 at " + j + " " + i, x.reached(196, j, i), j < 14 && i == 14);
                CHECK.due("slot 197 at " + j + " " + i, x.reached(197, j, i), j == 14 && i == 14);
                CHECK.due("slot 198 at " + j + " " + i, x.reached(198, j, i), false);
                CHECK.due("Z packed " + j + " " + i, x.packed(2, j, i), j <= 14 && i == 14 ? 1 : 0);
            }
        }
        Subject most = Check.with(MOST_NONTERMINALS, "a".repeat(14));
        CHECK.due("the last nonterminal at the last place", most.packed(19, 14, 14), 1);
        CHECK.due("over all of it", most.packed(19, 0, 14), 1);
        CHECK.due("one more", most.packed(20, 14, 14), 0);
        CHECK.due("one behind", most.packed(19, 15, 15), 0);
        CHECK.due("its nodes", most.count(3), 19 + 15);
    }

    /** "NONE without an input". */
    private static void lookedWithoutInput() {
        Subject refused = Check.with("S=a;");
        Check.parse(refused, "A");
        for (Subject x : new Subject[] {new Subject(), Check.with("S=a;"), refused}) {
            CHECK.due("FURTHEST without an input", x.looked(0), NONE);
            CHECK.due("EXPECTED without an input", x.looked(1), NONE);
        }
        Subject x = Check.with("S=a;", "");
        CHECK.due("FURTHEST of an empty input", x.looked(0), 0);
        CHECK.due("EXPECTED of an empty input", x.looked(1), Check.bits("a"));
        Check.grammar(x, "S=a;");
        CHECK.due("FURTHEST behind it", x.looked(0), NONE);
        CHECK.due("EXPECTED behind it", x.looked(1), NONE);
    }

    /** "or for another what." */
    private static void lookedOfAnotherWhat() {
        Subject[] all = {new Subject(), Check.with("S=a;"), Check.with("S=a;", "a"), Check.with("S=a;", "")};
        for (Subject x : all) {
            CHECK.due("looked 2", x.looked(2), NONE);
            for (int what : FAR) {
                CHECK.due("looked " + what, x.looked(what), NONE);
            }
        }
    }

    private static void looked(String grammar, String input, int furthest, String expected) {
        Subject x = Check.with(grammar, input);
        CHECK.due(grammar + " " + input + " FURTHEST", x.looked(0), furthest);
        CHECK.due(grammar + " " + input + " EXPECTED", x.looked(1), Check.bits(expected));
    }

    /** "FURTHEST is the greatest i at which a slot was tried". */
    private static void furthestAtTheEnds() {
        looked("S=a*;", "", 0, "a$");
        looked("S=a*;", "b", 0, "a$");
        looked("S=a*;", "ab", 1, "a$");
        looked("S=a*;", "a".repeat(13) + "b", 13, "a$");
        looked("S=a*;", "a".repeat(14), 14, "a$");
        looked("S=;", "", 0, "$");
        looked("S=;", "a", 0, "$");
        looked("S=a|abcd;", "abcz", 3, "d");
        looked("S=abcd|a;", "abcz", 3, "d");
    }

    /** "EXPECTED all that the SELECTS of the slots have that were tried there." */
    private static void expectedAtTheEnds() {
        looked("S=T;T=T;", "", 0, "");
        looked("S=T;T=T;", "a", 0, "");
        looked("S=aT;T=T;", "a", 1, "");
        looked("S=[a-z]*;", "a", 1, "abcdefghijklmnopqrstuvwxyz$");
        looked("S=[a-z];", "", 0, "abcdefghijklmnopqrstuvwxyz");
        looked("S=ab|ac|d;", "ad", 1, "bc");
        looked("S=ab|ac|d;", "d", 1, "$");
        looked("S=ab|a|az;", "ac", 1, "bz$");
        looked("S=Tx;T=a|ab;", "ay", 1, "bx");
        looked("S=a?b?c?;", "", 0, "abc$");
        looked("S=a?b?c?;", "b", 1, "c$");
    }

    // ---- promise 11

    private static void counts(String grammar, String input, int... want) {
        Subject x = Check.with(grammar, input);
        for (int what = 0; what < want.length; what++) {
            CHECK.due(grammar + " " + input + " count " + what, x.count(what), want[what]);
        }
    }

    /** "NONE for another what." */
    private static void countOfAnotherWhat() {
        Subject[] all = {new Subject(), Check.with("S=a;"), Check.with("S=a;", "a"), Check.with("S=a;", "b")};
        for (Subject x : all) {
            CHECK.due("count 8", x.count(8), NONE);
            CHECK.due("count 9", x.count(9), NONE);
            for (int what : FAR) {
                CHECK.due("count " + what, x.count(what), NONE);
            }
        }
    }

    private static void countWithoutInput() {
        for (Subject x : new Subject[] {new Subject(), Check.with("S=SS|a|;")}) {
            for (int what = 0; what < 8; what++) {
                CHECK.due("count " + what + " without an input", x.count(what), 0);
            }
        }
    }

    private static void countsOfTheFewest() {
        counts("S=;", "", 1, 1, 0, 1, 0, 1, 1, 0);
        counts("S=;", "a", 0, 1, 0, 0, 0, 0, 0, 0);
        counts("S=a;", "", 0, 1, 0, 0, 0, 0, 0, 0);
        counts("S=a;", "a", 2, 1, 0, 1, 0, 1, 1, 0);
        counts("S=T;T=T;", "", 0, 1, 0, 0, 0, 0, 0, 0);
        counts("S=T;T=;", "", 3, 2, 1, 2, 0, 2, 2, 0);
        counts("S=S;", "", 0, 1, 0, 0, 0, 0, 0, 0);
        counts("S=S|;", "", 3, 1, 1, 1, 0, 2, 1, 1);
    }

    /** "(and START, 0, if there is an input)": once, and whether anything is reached or not. */
    private static void callsCountTheStart() {
        CHECK.due("without an input", Check.with("S=a;").count(1), 0);
        CHECK.due("nothing reached", Check.with("S=a;", "b").count(1), 1);
        CHECK.due("START again at 0", Check.with("S=Sa|a;", "aa").count(1), 1);
        CHECK.due("START at 0 and 1", Check.with("S=aS|a;", "aa").count(1), 2);
        CHECK.due("START at 0 to 2", Check.with("S=aS|;", "aa").count(1), 3);
        CHECK.due("START at all places", Check.with("S=aS|;", "a".repeat(14)).count(1), 15);
        CHECK.due("a slot that is tried only", Check.with("S=aTb|ab;T=c;", "ab").count(1), 1);
        CHECK.due("a slot that is reached", Check.with("S=aTb|ab;T=c;", "acb").count(1), 2);
        CHECK.due("two slots ahead of one", Check.with("S=Ta|Tb;T=c;", "cb").count(1), 2);
        CHECK.due("these two", Check.with("S=Ta|Tb;T=c;", "cb").count(2), 2);
    }

    /** "at least two symbols are ahead of it and one behind it". */
    private static void innerNodesByLength() {
        String letters = "abcdefghijklmn";
        for (int n = 0; n <= 14; n++) {
            String word = letters.substring(0, n);
            counts("S=" + word + ";", word, n + 1, 1, 0, 1, Math.max(0, n - 2), 1 + Math.max(0, n - 2), 1, 0);
        }
        for (int n = 0; n <= 14; n++) {
            Subject x = Check.with("S=abcdefghijklmno;", letters.substring(0, n));
            CHECK.due("inner nodes of a part of " + n, x.count(4), Math.max(0, n - 2));
            CHECK.due("symbol nodes of a part of " + n, x.count(3), 0);
        }
        CHECK.due("nothing covered but two symbols", Check.with("S=TTa;T=;", "a").count(4), 1);
        CHECK.due("nothing covered by two of three", Check.with("S=TTT;T=;", "").count(4), 1);
        CHECK.due("nothing covered by two", Check.with("S=TT;T=;", "").count(4), 0);
    }

    // ---- promise 12, and USEFUL

    /** "of an empty alternate one with the pivot i". */
    private static void packedOfEmptyAlternates() {
        CHECK.due("one empty alternate", Check.with("S=;", "").packed(0, 0, 0), 1);
        CHECK.due("two", Check.with("S=|;", "").packed(0, 0, 0), 2);
        CHECK.due("48", Check.with("S=" + "|".repeat(47) + ";", "").packed(0, 0, 0), 48);
        CHECK.due("and one that is not", Check.with("S=|T;T=;", "").packed(0, 0, 0), 2);
        Subject x = Check.with("S=aT;T=;", "a");
        CHECK.due("behind a letter", x.packed(1, 1, 1), 1);
        CHECK.due("not ahead of it", x.packed(1, 0, 0), 0);
        CHECK.due("nor over it", x.packed(1, 0, 1), 0);
        CHECK.due("with the pivot 1", x.packed(0, 0, 1), 1);
        Subject end = Check.with("S=[a-z]*T;T=;", "a".repeat(14));
        CHECK.due("at the last place", end.packed(1, 14, 14), 1);
    }

    /** "one for each PIVOT p": the first, the last and all between. */
    private static void packedByPivots() {
        for (int n = 0; n <= 14; n++) {
            Subject x = Check.with("S=TU;T=a*;U=a*;", "a".repeat(n));
            CHECK.due("pivots in " + n, x.packed(0, 0, n), n + 1);
            CHECK.due("T of " + n, x.packed(1, 0, n), 1);
            CHECK.due("U of " + n, x.packed(2, 0, n), 1);
        }
        CHECK.due("no pivot where the last symbol covers less", Check.with("S=TU;T=|a;U=a;", "aa").packed(0, 0, 2), 1);
        CHECK.due("no pivot where the first symbol covers less", Check.with("S=TU;T=a;U=|a;", "aa").packed(0, 0, 2), 1);
        CHECK.due("no pivot but the last", Check.with("S=aT;T=;", "a").packed(0, 0, 1), 1);
        CHECK.due("no pivot but the first", Check.with("S=Ta;T=;", "a").packed(0, 0, 1), 1);
        CHECK.due("a SET's one pivot", Check.with("S=T[ab];T=a*;", "aa").packed(0, 0, 2), 1);
        CHECK.due("pivots of two alternates", Check.with("S=TT|aT|a|aa;T=a|;", "a").packed(0, 0, 1), 4);
    }

    /** "0 if there is none such." */
    private static void packedOfNoNode() {
        CHECK.due("packed at first", new Subject().packed(0, 0, 0), 0);
        CHECK.due("packed without an input", Check.with("S=;").packed(0, 0, 0), 0);
        CHECK.due("packed where nothing is accepted", Check.with("S=;", "a").packed(0, 0, 0), 0);
        Subject x = Check.with("S=TT;T=|a;", "a");
        for (int far : FAR) {
            for (int j = -1; j <= 2; j++) {
                for (int i = -1; i <= 2; i++) {
                    CHECK.due("packed " + far + " " + j + " " + i, x.packed(far, j, i), 0);
                    CHECK.due("packed " + j + " " + far + " " + i, x.packed(j, far, i), 0);
                    CHECK.due("packed " + j + " " + i + " " + far, x.packed(j, i, far), 0);
                }
            }
            for (int other : FAR) {
                CHECK.due("packed 0 " + far + " " + other, x.packed(0, far, other), 0);
                CHECK.due("packed " + far + " 0 " + other, x.packed(far, 0, other), 0);
                CHECK.due("packed " + far + " " + other + " 0", x.packed(far, other, 0), 0);
            }
        }
        for (int y = 0; y < 2; y++) {
            CHECK.due(y + " from 0 to 1", x.packed(y, 0, 1), 2 - y);
            CHECK.due(y + " never from 1 to 0", x.packed(y, 1, 0), 0);
            CHECK.due(y + " never behind the input", x.packed(y, 2, 2), 0);
        }
        CHECK.due("nonterminal 2", x.packed(2, 0, 0), 0);
    }

    /** "USEFUL are the root, and the symbol nodes in what packed nodes lead to from it". */
    private static void usefulOrNot() {
        counts("S=TTb;T=a|;", "a", 4, 2, 2, 1, 0, 1, 0, 0);
        CHECK.due("the root alone", Check.with("S=abc;", "abc").count(6), 1);
        CHECK.due("with its parts", Check.with("S=TbU;T=a;U=c;", "abc").count(6), 3);
        CHECK.due("with parts of parts", Check.with("S=T;T=U;U=V;V=a;", "a").count(6), 4);
        CHECK.due("by each pivot", Check.with("S=TUV;T=|a;U=|a;V=|a;", "a").count(6), 8);
        CHECK.due("by each pivot of each slot", Check.with("S=TUVWX;T=|a;U=|a;V=|a;W=|a;X=|a;", "a").count(6), 14);
        CHECK.due("through inner nodes", Check.with("S=TTTTTT;T=|a;", "a").count(6), 4);
        Subject x = Check.with("S=Tab|Uac;T=x;U=x;", "xac");
        CHECK.due("symbol nodes", x.count(3), 3);
        CHECK.due("of these the useful ones", x.count(6), 2);
        Check.parse(x, "xad");
        CHECK.due("symbol nodes without a root", x.count(3), 2);
        CHECK.due("none of these is useful", x.count(6), 0);
    }

    /** "7 of these those with at least two packed nodes". */
    private static void atLeastTwoPacked() {
        CHECK.due("one packed node", Check.with("S=a;", "a").count(7), 0);
        CHECK.due("two", Check.with("S=a|a;", "a").count(7), 1);
        CHECK.due("three", Check.with("S=a|a|a;", "a").count(7), 1);
        CHECK.due("two by pivots", Check.with("S=TT;T=a|;", "a").count(7), 1);
        CHECK.due("two in an inner node alone", Check.with("S=TTb;T=a|;", "ab").count(7), 0);
        CHECK.due("two in a part", Check.with("S=bT;T=a|a;", "ba").count(7), 1);
        CHECK.due("two in one that is not useful", Check.with("S=bTb|bU;T=a|a;U=ac;", "bac").count(7), 0);
        CHECK.due("two without a root", Check.with("S=Ta;T=b|b;", "b").count(7), 0);
    }

    /** Nearly every slot is reached at nearly every j, i. */
    private static void largestForest() {
        Subject x = Check.with("S=" + "S".repeat(149) + "|a|;", "a".repeat(14));
        int[] want = {149 * 120 + 58, 15, 148 * 120 + 15, 120, 147 * 120, 148 * 680 + 29, 120, 120};
        for (int what = 0; what < 8; what++) {
            CHECK.due("the largest forest: count " + what, x.count(what), want[what]);
        }
        CHECK.due("its trees", x.trees(), NONE);
        CHECK.due("its least tree", x.least(), 150);
        CHECK.due("its first node", x.step(0, 0), 0);
        CHECK.due("the node behind it", x.step(1, 0), 2);
        CHECK.due("its last node", x.step(149, 0), 1);
        CHECK.due("where that begins", x.step(149, 1), 13);
        CHECK.due("no more nodes", x.step(150, 0), NONE);
    }
}
