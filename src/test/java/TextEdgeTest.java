/**
 * The edges of the tape and of a grammar's text: the terms up to fault 4, and promises 2 to 4. The words
 * of the document that a test stands for are above it.
 */
public final class TextEdgeTest {
    private static final Check CHECK = new Check();
    private static final int NONE = SlotForest.NONE;
    private static final String BAD = "IllegalArgumentException";
    private static final String NAMES = "ABCDEFGHIJKLMNOPQRSTUVWXYZ";
    private static final String LETTERS = "abcdefghijklmnopqrstuvwxyz";
    private static final int[] EXTREMES = {Integer.MIN_VALUE, Integer.MIN_VALUE + 1, -2, -1, 64, 256, 257, 264,
        Integer.MAX_VALUE - 1, Integer.MAX_VALUE};

    public static void main(String[] args) {
        wordLength();
        bytes();
        refusedBytesChangeNothing();
        onlyTheLowestBytes();
        highestFirst();
        tapeIsFull();
        tapeIsFullByWords();
        tapeAfterBeingFull();
        refusedTypeChangesNothing();
        oneRuleAtLeast();
        ruleParts();
        namesEnd();
        lettersEnd();
        sequencesMayBeEmpty();
        oneSignBehindAnAtom();
        setsHaveALetter();
        ranges();
        groupsInEachOther();
        blanksCountForNothing();
        blanksCountInPlaces();
        everyCharacterEverywhere();
        everyPrefix();
        placesAtTheEnds();
        faultOrder();
        secondRules();
        namesWithoutRule();
        nonterminalLimit();
        alternateLimit();
        symbolLimit();
        allLimitsAtOnce();
        farBeyondTheLimits();
        slotsTold();
        tapeIsEmptyInAnyCase();
        grammarBeforeStays();
        noGrammarStaysNone();
        faultIsOfTheLatest();
        faultOfAnotherWhat();
        CHECK.end();
    }

    /** A tape holds this, if that many slots are told of it and its symbols are these letters. */
    private static void holds(String about, Subject x, String letters) {
        CHECK.due(about + ": slots", Check.grammar(x, ""), letters.length() + 1);
        for (int k = 0; k < letters.length(); k++) {
            CHECK.due(about + ": symbol " + k, x.rule(0, k), -2 - (1 << letters.charAt(k) - 'a'));
        }
    }

    // ---- promise 2 and "THE TAPE has at most 400 characters."

    /** "The n (1 .. 8) lowest bytes of word", "false [..] for another n". */
    private static void wordLength() {
        for (int n = -3; n <= 12; n++) {
            Subject x = Check.untold("S=");
            CHECK.due("type of n " + n, x.type(Check.word("abcdefgh"), n), n >= 1 && n <= 8);
            Check.type(x, ";");
            holds("the tape behind n " + n, x, n >= 1 && n <= 8 ? "abcdefgh".substring(8 - n) : "");
        }
        for (int n : EXTREMES) {
            Subject x = Check.untold("S=a");
            CHECK.due("type of n " + n, x.type(Check.word("bbbbbbbb"), n), false);
            Check.type(x, ";");
            holds("the tape behind n " + n, x, "a");
            CHECK.due("type on an empty tape of n " + n, new Subject().type(Check.word("bbbbbbbb"), n), false);
        }
    }

    /** "for a byte that is not 32 .. 126": each byte at each place of each length. */
    private static void bytes() {
        for (int c = 0; c < 256; c++) {
            boolean fits = c >= 32 && c <= 126;
            for (int n = 1; n <= 8; n++) {
                Subject x = new Subject();
                for (int at = 0; at < n; at++) {
                    long word = Check.word("aaaaaaaa") & ~(255L << 8 * at) | (long) c << 8 * at;
                    CHECK.due("byte " + c + " at " + at + " of " + n, x.type(word, n), fits);
                }
            }
        }
    }

    /** "false, changing nothing, [..] for a byte that is not 32 .. 126": nothing of the word is put there. */
    private static void refusedBytesChangeNothing() {
        for (int c : new int[] {0, 31, 127, 128, 255}) {
            for (int at = 0; at < 8; at++) {
                Subject x = Check.untold("S=abc");
                long word = Check.word("dddddddd") & ~(255L << 8 * at) | (long) c << 8 * at;
                CHECK.due("byte " + c + " at " + at, x.type(word, 8), false);
                Check.type(x, "e;");
                holds("the tape behind byte " + c + " at " + at, x, "abce");
            }
        }
    }

    private static void onlyTheLowestBytes() {
        for (int n = 1; n < 8; n++) {
            for (long above : new long[] {0L, -1L, 0x8080808080808080L, 0x7F7F7F7F7F7F7F7FL, 0x1F1F1F1F1F1F1F1FL}) {
                Subject x = Check.untold("S=");
                long word = above << 8 * n | Check.word("abcdefgh") & (1L << 8 * n) - 1L;
                CHECK.due("the " + n + " lowest of " + word, x.type(word, n), true);
                Check.type(x, ";");
                holds("the " + n + " lowest of " + word, x, "abcdefgh".substring(8 - n));
            }
        }
    }

    /** "the highest first, are put behind the tape". */
    private static void highestFirst() {
        Subject x = new Subject();
        CHECK.due("S=", x.type(0x533DL, 2), true);
        CHECK.due("abcd", x.type(0x61626364L, 4), true);
        CHECK.due("efghij;", x.type(0x65666768696A3BL, 7), true);
        holds("words one behind another", x, "abcdefghij");
    }

    /** "or if there would be more than 400": each length ahead of the limit with each n. */
    private static void tapeIsFull() {
        for (int length = 391; length <= 400; length++) {
            for (int n = 1; n <= 8; n++) {
                Subject x = Check.untold("S=a;" + " ".repeat(length - 4));
                CHECK.due(n + " behind " + length, x.type(Check.word("!!!!!!!!"), n), length + n <= 400);
                CHECK.due("grammar of it", Check.grammar(x, ""), length + n <= 400 ? BAD : 2);
                CHECK.due("its place", x.fault(1), length + n <= 400 ? length : 0);
            }
        }
    }

    /** What is refused for its length leaves room for what is shorter. */
    private static void tapeIsFullByWords() {
        Subject x = Check.untold("S=" + " ".repeat(391));
        CHECK.due("8 behind 393", x.type(Check.word("bbbbbbbb"), 8), false);
        CHECK.due("7 behind 393", x.type(Check.word("ccccccc"), 7), true);
        CHECK.due("1 behind 400", x.type('d', 1), false);
        CHECK.due("none behind 400", x.type('d', 0), false);
        CHECK.due("grammar of 400", Check.grammar(x, ""), BAD);
        CHECK.due("what is missing", x.fault(1), 400);
        Subject y = Check.untold("S=" + " ".repeat(393));
        CHECK.due("6 behind 395", y.type(Check.word("bbbbbb"), 6), false);
        CHECK.due("4 behind 395", y.type(Check.word("abcd"), 4), true);
        CHECK.due("2 behind 399", y.type(Check.word("e;"), 2), false);
        CHECK.due("1 behind 399", y.type(';', 1), true);
        holds("400 characters", y, "abcd");
    }

    private static void tapeAfterBeingFull() {
        Subject x = Check.untold("S=a;" + " ".repeat(396));
        CHECK.due("a full tape's grammar", Check.grammar(x, ""), 2);
        Check.type(x, "a" + " ".repeat(399));
        CHECK.due("full again", x.type('a', 1), false);
        CHECK.due("a full tape's input", Check.parse(x, ""), true);
        Check.type(x, "~".repeat(400));
        CHECK.due("full once more", x.type('a', 1), false);
        CHECK.due("a full tape that is no input", Check.parse(x, ""), BAD);
        Check.type(x, "~".repeat(400));
        CHECK.due("a full tape that is no grammar", Check.grammar(x, ""), BAD);
        Check.type(x, "S=" + "a".repeat(150) + ";");
        holds("the tape behind them", x, "a".repeat(150));
    }

    /** "false, changing nothing". */
    private static void refusedTypeChangesNothing() {
        Subject x = Check.with("S=SS|a|;", "aaa");
        String before = Check.answers(x);
        CHECK.due("refused n", x.type('b', 9), false);
        CHECK.due("refused byte", x.type(0x6161616161616107L, 8), false);
        CHECK.due("refused first byte", x.type(0x0761616161616161L, 8), false);
        CHECK.due("behind refused words", Check.answers(x), before);
        CHECK.due("an empty tape behind them", Check.parse(x, ""), true);
        CHECK.due("nothing was typed", x.looked(0), 0);
    }

    // ---- "A GRAMMAR is a text of RULES, one at least: a NAME (A .. Z), =, a CHOICE, ;"

    private static void oneRuleAtLeast() {
        for (int blanks = 0; blanks <= 400; blanks += 50) {
            CHECK.fault(" ".repeat(blanks), 1, blanks);
        }
        CHECK.fault(";", 1, 0);
        CHECK.fault("S=;", 0, 0);
        CHECK.fault("S=;T=;", 0, 0);
    }

    private static void ruleParts() {
        CHECK.fault("=a;", 1, 0);
        CHECK.fault("Sa;", 1, 1);
        CHECK.fault("S=a", 1, 3);
        CHECK.fault("S=aT=b;", 1, 4);
        CHECK.fault("S=a;=b;", 1, 4);
        CHECK.fault("S==a;", 1, 2);
        CHECK.fault("S=a;;", 1, 4);
        CHECK.fault("ST=a;", 1, 1);
    }

    private static void namesEnd() {
        for (char c : NAMES.toCharArray()) {
            CHECK.fault(c + "=" + c + ";", 0, 0);
        }
        for (char c : "@[`az".toCharArray()) {
            CHECK.fault(c + "=a;", 1, 0);
        }
    }

    /** "A letter is a .. z, told by its number 0 .. 25." */
    private static void lettersEnd() {
        for (int number = 0; number < 26; number++) {
            Subject x = Check.with("S=" + LETTERS.charAt(number) + ";", LETTERS.substring(number, number + 1));
            CHECK.due("letter " + number, x.rule(0, 0), -2 - (1 << number));
            CHECK.due("FIRST of letter " + number, x.set(1, 0), 1 << number);
            CHECK.due("input of letter " + number, x.least(), 1);
        }
        for (char c : "`{@".toCharArray()) {
            CHECK.fault("S=" + c + ";", 1, 2);
            CHECK.fault("S=[" + c + "];", 1, 3);
            CHECK.fault("S=[a-" + c + "];", 1, 5);
            CHECK.due("input of " + c, Check.parse(Check.with("S=[a-z];"), "" + c), BAD);
        }
    }

    /** "A CHOICE: SEQUENCES with | between. A SEQUENCE: ITEMS, perhaps none." */
    private static void sequencesMayBeEmpty() {
        String[] texts = {"S=;", "S=|;", "S=||;", "S=a|;", "S=|a;", "S=a||b;", "S=();", "S=(|);", "S=(|a|);"};
        int[] alternates = {1, 2, 3, 2, 2, 3, 2, 3, 4};
        int[] symbols = {0, 0, 0, 1, 1, 2, 1, 1, 2};
        for (int t = 0; t < texts.length; t++) {
            Subject x = Check.with(texts[t]);
            CHECK.due(texts[t] + " alternates", x.size(2), alternates[t]);
            CHECK.due(texts[t] + " symbols", x.size(3), symbols[t]);
        }
    }

    /** "An ITEM: an ATOM, perhaps with one of * + ? behind it." */
    private static void oneSignBehindAnAtom() {
        for (String atom : new String[] {"a", "S", "[a-c]", "(a)", "()"}) {
            CHECK.fault("S=" + atom + ";", 0, 0);
            for (String sign : new String[] {"*", "+", "?"}) {
                CHECK.fault("S=" + atom + sign + ";", 0, 0);
                CHECK.fault("S=" + atom + sign + atom + sign + ";", 0, 0);
                CHECK.fault("S=(" + atom + sign + ")" + sign + ";", 0, 0);
                for (String second : new String[] {"*", "+", "?"}) {
                    CHECK.fault("S=" + atom + sign + second + ";", 1, 3 + atom.length());
                }
            }
        }
        for (String sign : new String[] {"*", "+", "?"}) {
            CHECK.fault("S=" + sign + ";", 1, 2);
            CHECK.fault("S=a|" + sign + ";", 1, 4);
            CHECK.fault("S=(" + sign + "a);", 1, 3);
            CHECK.fault(sign + "S=a;", 1, 0);
            CHECK.fault("S=[a" + sign + "];", 1, 4);
        }
    }

    /** "[ with letters, or letters with - between [..], one at least, and ]". */
    private static void setsHaveALetter() {
        CHECK.fault("S=[];", 1, 3);
        CHECK.fault("S=[ ];", 1, 4);
        CHECK.fault("S=[-];", 1, 3);
        CHECK.fault("S=[a];", 0, 0);
        CHECK.fault("S=[aa];", 0, 0);
        CHECK.fault("S=[a;", 1, 4);
        CHECK.fault("S=]a];", 1, 2);
        CHECK.fault("S=[S];", 1, 3);
        CHECK.fault("S=[(a)];", 1, 3);
        CHECK.due("the same letter again", Check.with("S=[aaa-ca];").rule(0, 0), -2 - Check.bits("abc"));
        CHECK.due("ranges over one another", Check.with("S=[a-db-ff-fz];").rule(0, 0), -2 - Check.bits("abcdefz"));
    }

    /** "(all from the first to the second, which is not before it)". */
    private static void ranges() {
        for (int from = 0; from < 26; from++) {
            for (int to = 0; to < 26; to++) {
                String text = "S=[" + LETTERS.charAt(from) + "-" + LETTERS.charAt(to) + "];";
                if (to < from) {
                    CHECK.fault(text, 1, 5);
                } else {
                    CHECK.due(text, Check.with(text).rule(0, 0), -2 - Check.bits(LETTERS.substring(from, to + 1)));
                }
            }
        }
        CHECK.fault("S=[a-b-c];", 1, 6);
        CHECK.fault("S=[a--b];", 1, 5);
        CHECK.fault("S=[a-bc-b];", 1, 8);
        CHECK.fault("S=[ca-b];", 0, 0);
        CHECK.fault("S=[c-db-a];", 1, 8);
    }

    /** "( CHOICE ), at most 6 in each other." */
    private static void groupsInEachOther() {
        for (int depth = 1; depth <= 8; depth++) {
            String text = "S=" + "(".repeat(depth) + "a" + ")".repeat(depth) + ";";
            CHECK.fault(text, depth <= 6 ? 0 : 1, depth <= 6 ? 0 : 8);
            CHECK.fault("T=((((()))));" + text, depth <= 6 ? 0 : 1, depth <= 6 ? 0 : 21);
        }
        CHECK.fault("S=((((((a))))))((((((a)))))));", 1, 28);
        CHECK.fault("S=((((((a)(b)|(c)))))));", 1, 22);
        CHECK.fault("S=((((((a)(b)|(c))))));", 0, 0);
        CHECK.fault("S=((((((a)(b)|((c))))))));", 1, 15);
        CHECK.fault("S=((((((a)*)+)?)*)+)?;", 0, 0);
        CHECK.fault("S=(a)(a)(a)(a)(a)(a)(a)(a);", 0, 0);
        CHECK.fault("S=((((((;", 1, 8);
        CHECK.fault("S=a);", 1, 3);
        CHECK.fault("S=(a));", 1, 5);
    }

    /** "Blanks (32) count for nothing." */
    private static void blanksCountForNothing() {
        String bare = "S=a(b|[c-ex]T*)+S?|;T=(())x;";
        String before = Check.answers(Check.with(bare, "abx"));
        StringBuilder wide = new StringBuilder(" ");
        for (char c : bare.toCharArray()) {
            wide.append(c).append("   ");
        }
        CHECK.due("blanks everywhere", Check.answers(Check.with(wide.toString(), "   a  b x  ")), before);
        for (int at = 0; at <= bare.length(); at++) {
            String text = bare.substring(0, at) + " " + bare.substring(at);
            CHECK.due(text, Check.grammar(new Subject(), text), Check.with(bare).size(2) + Check.with(bare).size(3));
        }
        CHECK.fault("S!=a;", 1, 1);
    }

    /** "the first character that cannot stand there": its place on the tape, blanks and all. */
    private static void blanksCountInPlaces() {
        CHECK.fault("   s", 1, 3);
        CHECK.fault("  S  =  a  *  *  ;", 1, 14);
        CHECK.fault(" S = a ; S = b ;", 2, 9);
        CHECK.fault(" S = a  T ;", 3, 8);
        CHECK.fault(" S = a ", 1, 7);
        CHECK.fault("S=[ d - c ];", 1, 8);
    }

    // ---- "1 syntax: the first character that cannot stand there (the text's length if one is missing)"

    /** What can stand behind each of these beginnings, of all the characters that a tape can hold. */
    private static void everyCharacterEverywhere() {
        String items = NAMES + LETTERS + "[(|";
        follows("", NAMES);
        follows("S", "=");
        follows("S=", items + ";");
        for (String atom : new String[] {"a", "S", "[a]", "[a-b]", "()", "(a|b)"}) {
            follows("S=" + atom, items + ";*+?");
            follows("S=" + atom + "*", items + ";");
            follows("S=(" + atom, items + ")*+?");
            follows("S=(" + atom + "?", items + ")");
        }
        follows("S=a+", items + ";");
        follows("S=a|", items + ";");
        follows("S=(", items + ")");
        follows("S=(((((", items + ")");
        follows("S=((((((", items.replace("(", "") + ")");
        follows("S=((((((a", items.replace("(", "") + ")*+?");
        follows("S=((((((a)", items + ")*+?");
        follows("S=[", LETTERS);
        follows("S=[d", LETTERS + "-]");
        follows("S=[d-", LETTERS.substring(3));
        follows("S=[z-", "z");
        follows("S=[d-f", LETTERS + "]");
        follows("S=[d-fe", LETTERS + "-]");
        follows("S=a;", NAMES);
    }

    private static void follows(String beginning, String allowed) {
        for (int c = 33; c <= 126; c++) {
            for (String text : new String[] {beginning + (char) c, beginning + " " + (char) c}) {
                boolean fits = allowed.indexOf(c) >= 0;
                boolean whole = fits && c == ';';
                CHECK.fault(text, whole ? 0 : 1, whole ? 0 : fits ? text.length() : text.length() - 1);
            }
        }
    }

    /** "(the text's length if one is missing)": wherever a text breaks off. */
    private static void everyPrefix() {
        String text = "S = a(b|[c-ex y]S*)+|; T=(())?; U =S";
        for (int length = 0; length <= text.length(); length++) {
            String prefix = text.substring(0, length);
            boolean whole = prefix.trim().endsWith(";");
            CHECK.fault(prefix, whole ? 0 : 1, whole ? 0 : length);
        }
    }

    private static void placesAtTheEnds() {
        CHECK.fault("~" + " ".repeat(399), 1, 0);
        CHECK.fault(" ".repeat(399) + "~", 1, 399);
        CHECK.fault(" ".repeat(399) + "S", 1, 400);
        CHECK.fault("S=a;" + " ".repeat(395) + "~", 1, 399);
        CHECK.fault("S=a;" + " ".repeat(396), 0, 0);
        CHECK.fault("S=a;" + " ".repeat(393) + "S=;", 2, 397);
        CHECK.fault("S=a" + " ".repeat(395) + "T;", 3, 398);
        CHECK.fault("~~", 1, 0);
        CHECK.fault("S=a~~", 1, 3);
    }

    // ---- "FAULTS, looked for in this order", and 2 to 4

    private static void faultOrder() {
        String much = "|".repeat(60);
        CHECK.fault("S=T" + much + ";S=a;]", 1, 68);
        CHECK.fault("S=T" + much + ";S=a;", 2, 64);
        CHECK.fault("S=T" + much + ";", 3, 2);
        CHECK.fault("S=" + much + ";", 4, 0);
        CHECK.fault("S=a;S=b;T", 1, 9);
        CHECK.fault("S=T;!", 1, 4);
        CHECK.fault("S=" + much + ";!", 1, 63);
        CHECK.fault("S=T;U=a;U=b;", 2, 8);
        CHECK.fault("S=" + much + ";S=;", 2, 63);
        CHECK.fault("S=" + much + "T;", 3, 62);
    }

    /** "2 a second rule for a name: its NAME". */
    private static void secondRules() {
        CHECK.fault("S=;S=;", 2, 3);
        CHECK.fault("S=;S=;S=;", 2, 3);
        CHECK.fault("S=;T=;T=;S=;", 2, 6);
        CHECK.fault("S=;T=;S=;T=;", 2, 6);
        CHECK.fault("S=S;T=S;", 0, 0);
        CHECK.fault("S=S S S;", 0, 0);
        CHECK.fault("A=Z;Z=A;A=;", 2, 8);
        CHECK.fault("A=Z;Z=A;Z=;", 2, 8);
        StringBuilder all = new StringBuilder();
        for (int name = 0; name < 26; name++) {
            all.append(NAMES.charAt(name)).append("=;");
        }
        CHECK.fault(all + "Z=;", 2, 78);
        CHECK.fault(all + "A=;", 2, 78);
        CHECK.fault(all.toString(), 4, 0);
    }

    /** "3 the first NAME in a choice that has no rule". */
    private static void namesWithoutRule() {
        CHECK.fault("S=T;", 3, 2);
        CHECK.fault("S=T;T=;", 0, 0);
        CHECK.fault("S=STU;T=V;", 3, 4);
        CHECK.fault("S=TU;U=;", 3, 2);
        CHECK.fault("S=a|b(c[d]T)*;", 3, 10);
        CHECK.fault("S=S;T=T;U=UX;", 3, 11);
        CHECK.fault("B=A;", 3, 2);
        CHECK.fault("B=Z;", 3, 2);
        CHECK.fault("B=AB;A=;C=ZA;", 3, 10);
    }

    // ---- "4 (place 0) more than 20 NONTERMINALS, 48 ALTERNATES or 150 symbols in these"

    private static String rules(int names) {
        StringBuilder text = new StringBuilder();
        for (int y = 0; y < names; y++) {
            text.append(NAMES.charAt(y)).append("=;");
        }
        return text.toString();
    }

    private static void limit(String text, int nonterminals, int alternates, int symbols) {
        boolean fits = nonterminals <= 20 && alternates <= 48 && symbols <= 150;
        Subject x = new Subject();
        CHECK.due(text, Check.grammar(x, text), fits ? alternates + symbols : BAD);
        CHECK.due(text + " fault", x.fault(0), fits ? 0 : 4);
        CHECK.due(text + " place", x.fault(1), 0);
        CHECK.due(text + " nonterminals", x.size(0), fits ? nonterminals : 0);
        CHECK.due(text + " alternates", x.size(2), fits ? alternates : 0);
        CHECK.due(text + " symbols", x.size(3), fits ? symbols : 0);
    }

    private static void nonterminalLimit() {
        for (int names = 18; names <= 22; names++) {
            limit(rules(names), names, names, 0);
        }
        for (int more = 0; more <= 2; more++) {
            limit("Z=" + "()".repeat(18 + more) + ";", 19 + more, 19 + more, 18 + more);
            limit("Z=" + "a*".repeat(18 + more) + ";", 19 + more, 37 + 2 * more, 54 + 3 * more);
            limit("Z=" + "a+".repeat(18 + more) + ";", 19 + more, 37 + 2 * more, 72 + 4 * more);
            limit("Z=" + "a?".repeat(18 + more) + ";", 19 + more, 37 + 2 * more, 36 + 2 * more);
            limit(rules(18) + "Z=" + "()".repeat(more) + ";", 19 + more, 19 + more, more);
        }
        limit(rules(18) + "Z=(a)*;", 21, 22, 4);
        limit(rules(17) + "Z=(a)*;", 20, 21, 4);
    }

    private static void alternateLimit() {
        for (int more = 0; more <= 2; more++) {
            limit("S=" + "|".repeat(46 + more) + ";", 1, 47 + more, 0);
            limit("S=(" + "|".repeat(45 + more) + ");", 2, 47 + more, 1);
            limit("S=" + "a*".repeat(15) + "|".repeat(16 + more) + ";", 16, 47 + more, 45);
            limit("S=" + "a+".repeat(15) + "|".repeat(16 + more) + ";", 16, 47 + more, 60);
            limit("S=" + "a?".repeat(15) + "|".repeat(16 + more) + ";", 16, 47 + more, 30);
            limit("S=|a;T=|b;U=" + "|".repeat(42 + more) + ";", 3, 47 + more, 2);
        }
        limit("S=" + "|".repeat(45) + "a*;", 2, 48, 3);
        limit("S=" + "|".repeat(46) + "a*;", 2, 49, 3);
    }

    private static void symbolLimit() {
        String[] items = {"", "S", "[a-z]", "()", "b?", "(b)", "b*", "b+", "(b)+"};
        int[] symbols = {0, 1, 1, 1, 2, 2, 3, 4, 5};
        int[] helpers = {0, 0, 0, 1, 1, 1, 1, 1, 2};
        int[] alternates = {0, 0, 0, 1, 2, 1, 2, 2, 3};
        for (int t = 0; t < items.length; t++) {
            for (int sum = 149; sum <= 152; sum++) {
                String letters = "a".repeat(sum - symbols[t]);
                limit("S=" + letters + items[t] + ";", 1 + helpers[t], 1 + alternates[t], sum);
                limit("S=" + items[t] + letters + ";", 1 + helpers[t], 1 + alternates[t], sum);
            }
        }
        for (int sum = 149; sum <= 152; sum++) {
            limit("S=" + "a".repeat(100) + ";T=" + "b".repeat(sum - 100) + ";", 2, 2, sum);
            limit("S=" + "a".repeat(100) + "|" + "b".repeat(sum - 100) + ";", 1, 2, sum);
        }
    }

    private static void allLimitsAtOnce() {
        String most = "S=" + "|".repeat(28) + "a".repeat(150) + ";" + rules(19).replace("S", "Y");
        limit(most, 20, 48, 150);
        limit(most.replace(";A=", "a;A="), 20, 48, 151);
        limit(most.replace("S=", "S=|"), 20, 49, 150);
        limit(most.replace("S=|", "S=") + "Z=;", 21, 48, 150);
        limit(most + "Z=a;", 21, 49, 151);
    }

    /** However much a tape can hold, it is one fault. */
    private static void farBeyondTheLimits() {
        limit("S=" + "|".repeat(397) + ";", 1, 398, 0);
        limit("S=" + "a".repeat(397) + ";", 1, 1, 397);
        limit("S=" + "a+".repeat(198) + ";", 199, 397, 792);
        limit("S=" + "()".repeat(198) + ";", 199, 199, 198);
        limit("S=" + "()+".repeat(132) + ";", 265, 397, 528);
        limit("S=" + "(((((())))))".repeat(33) + ";", 199, 199, 198);
    }

    // ---- promises 3 and 4

    /** "how many slots it has": the fewest and the most. */
    private static void slotsTold() {
        CHECK.due("the fewest slots", Check.grammar(new Subject(), "S=;"), 1);
        CHECK.due("two empty alternates", Check.grammar(new Subject(), "S=|;"), 2);
        CHECK.due("one symbol", Check.grammar(new Subject(), "S=a;"), 2);
        CHECK.due("the most slots", Check.grammar(new Subject(), "S=" + "|".repeat(47) + "a".repeat(150) + ";"), 198);
    }

    /** "The tape (which is empty then in any case)". */
    private static void tapeIsEmptyInAnyCase() {
        for (String text : new String[] {"S=b;", "S=b;!", "S=b;S=b;", "S=bT;", "S=" + "b".repeat(151) + ";", "", "S"}) {
            Subject x = new Subject();
            Check.grammar(x, text);
            CHECK.due("an empty tape behind " + text, Check.grammar(x, ""), BAD);
            CHECK.due("its fault", x.fault(0), 1);
            CHECK.due("its place", x.fault(1), 0);
            Check.grammar(x, text);
            Check.type(x, "S=a;");
            holds("the tape behind " + text, x, "a");
        }
    }

    /** "IllegalArgumentException: it has a fault; the grammar before stays, with its input." */
    private static void grammarBeforeStays() {
        String[] texts = {"", "T=b;!", "T=b", "T=b;T=c;", "T=bU;", "T=" + "b".repeat(151) + ";",
            "T=" + "|".repeat(48) + ";", "T=" + "()".repeat(20) + ";", "T=((((((b*)+)?)*[c-ex])+)?"};
        for (String input : new String[] {"", "aaa", "aba", "b"}) {
            String before = Check.answers(Check.with("S=SS|a|Tb;T=(a|)+;", input));
            for (String text : texts) {
                Subject x = Check.with("S=SS|a|Tb;T=(a|)+;", input);
                CHECK.due("grammar " + text, Check.grammar(x, text), BAD);
                CHECK.due(input + " behind " + text, Check.answers(x), before);
                CHECK.due("still a grammar behind " + text, Check.parse(x, "a"), true);
            }
        }
        Subject x = Check.with("S=a;");
        CHECK.due("a fault without an input", Check.grammar(x, "T"), BAD);
        CHECK.due("there is none still", x.looked(0), NONE);
        CHECK.due("the grammar is there", x.size(3), 1);
    }

    private static void noGrammarStaysNone() {
        String before = Check.answers(new Subject());
        for (String text : new String[] {"", "T=b;!", "T=b;T=c;", "T=bU;", "T=" + "b".repeat(151) + ";"}) {
            Subject x = new Subject();
            CHECK.due("grammar " + text, Check.grammar(x, text), BAD);
            CHECK.due("nothing behind " + text, Check.answers(x), before);
            CHECK.due("no grammar behind " + text, Check.parse(x, ""), "IllegalStateException");
        }
    }

    /** "Of the latest grammar(): its fault (what 0; 0: none), the place (1; 0 without one)." */
    private static void faultIsOfTheLatest() {
        CHECK.due("no fault at first", new Subject().fault(0), 0);
        CHECK.due("no place at first", new Subject().fault(1), 0);
        Subject x = Check.with("S=a;");
        String[] texts = {"S=aT;", "S=a;", "S=ab!", "S=a;S=;", "S=" + "|".repeat(48) + ";", " S=a;"};
        int[][] want = {{3, 3}, {0, 0}, {1, 4}, {2, 4}, {4, 0}, {0, 0}};
        for (int t = 0; t < texts.length; t++) {
            Check.grammar(x, texts[t]);
            CHECK.due("fault of " + texts[t], x.fault(0), want[t][0]);
            CHECK.due("place of " + texts[t], x.fault(1), want[t][1]);
            Check.parse(x, "a");
            Check.parse(x, "A");
            x.type(0, 0);
            CHECK.due("fault of " + texts[t] + " still", x.fault(0), want[t][0]);
            CHECK.due("place of " + texts[t] + " still", x.fault(1), want[t][1]);
        }
    }

    /** "NONE for another what." */
    private static void faultOfAnotherWhat() {
        for (Subject x : new Subject[] {new Subject(), Check.with("S=a;"), afterFault()}) {
            for (int what : EXTREMES) {
                CHECK.due("fault of what " + what, x.fault(what), NONE);
            }
            CHECK.due("fault of what 2", x.fault(2), NONE);
            CHECK.due("fault of what 3", x.fault(3), NONE);
        }
    }

    private static Subject afterFault() {
        Subject x = Check.with("S=a;");
        Check.grammar(x, "S=ab!");
        return x;
    }
}
