import java.util.Arrays;

/**
 * Reads grammars of any shape and inputs by them: a grammar's slots become a program for a machine
 * of descriptors, which goes on with all readings at once; what it finds is kept as a forest with
 * nodes of two parts, in which readings are counted and the least one is told.
 */
public final class SlotForest {
    public static final int NONE = -1;

    private static final int BLANK = 32;
    private static final int LAST_CHARACTER = 126;
    private static final int MAX_TAPE = 400;
    private static final int MAX_WORD = 8;
    private static final int LETTERS = 26;
    private static final int END = 1 << LETTERS;
    private static final int START = 0;

    private static final int MAX_DEPTH = 6;
    private static final int MAX_NONTERMINALS = 20;
    private static final int MAX_ALTERNATES = 48;
    private static final int MAX_SYMBOLS = 150;
    private static final int MAX_SLOTS = MAX_ALTERNATES + MAX_SYMBOLS;

    private static final int MAX_INPUT = 14;
    private static final int PLACES = MAX_INPUT + 1;
    private static final int SPANS = PLACES * (PLACES + 1) / 2;

    private static final int MAX_STEPS = 500;
    private static final long MOST_IN_TREE = 1000000000L;
    private static final long MOST_TREES = 1000000000000L;

    private static final int NO_FAULT = 0;
    private static final int SYNTAX_FAULT = 1;
    private static final int SECOND_RULE_FAULT = 2;
    private static final int NO_RULE_FAULT = 3;
    private static final int TOO_MUCH_FAULT = 4;

    private final Tape tape;
    private final Syntax syntax;
    private final Draft draft;
    private final Grammar rules;
    private final LetterSets sets;
    private final Machine machine;
    private final Forest forest;
    private final TreeCount treeCount;
    private final LeastTree leastTree;
    private int faultKind;
    private int faultPlace;

    public SlotForest() {
        Agenda agenda = new Agenda();
        tape = new Tape();
        syntax = new Syntax();
        draft = new Draft();
        rules = new Grammar();
        sets = new LetterSets(rules);
        machine = new Machine(rules, sets, agenda);
        forest = new Forest(rules, machine, agenda);
        treeCount = new TreeCount(rules, machine, forest);
        leastTree = new LeastTree(rules, machine, forest);
        faultKind = NO_FAULT;
        faultPlace = 0;
    }

    public boolean type(long word, int n) {
        return tape.append(word, n);
    }

    public int grammar() throws IllegalArgumentException {
        findFault();
        tape.clear();
        if (faultKind != NO_FAULT) {
            throw new IllegalArgumentException("the grammar has a fault");
        }
        rules.take(draft);
        sets.find();
        machine.clear();
        return rules.slots;
    }

    public int fault(int what) {
        switch (what) {
            case 0: return faultKind;
            case 1: return faultPlace;
            default: return NONE;
        }
    }

    public int size(int what) {
        switch (what) {
            case 0: return rules.nonterminals;
            case 1: return rules.names;
            case 2: return rules.alternates;
            case 3: return rules.slots - rules.alternates;
            default: return NONE;
        }
    }

    public int rule(int alternate, int k) {
        if (alternate < 0 || alternate >= rules.alternates) {
            return NONE;
        }
        if (k == -1) {
            return rules.owner[alternate];
        }
        return k < 0 || k >= rules.lengthOf(alternate) ? NONE : rules.symbolBehind[rules.firstSlot[alternate] + k];
    }

    public int set(int what, int x) {
        int known = what == 3 ? rules.slots : rules.nonterminals;
        if (x < 0 || x >= known) {
            return NONE;
        }
        switch (what) {
            case 0: return sets.nullable[x] ? 1 : 0;
            case 1: return sets.first[x];
            case 2: return sets.follow[x];
            case 3: return sets.select[x];
            case 4: return sets.areApart(x) ? 1 : 0;
            default: return NONE;
        }
    }

    public boolean parse() throws IllegalStateException, IllegalArgumentException {
        if (rules.slots == 0) {
            throw new IllegalStateException("there is no grammar");
        }
        boolean taken = machine.load(tape);
        tape.clear();
        if (!taken) {
            throw new IllegalArgumentException("the tape holds no input");
        }
        machine.run();
        forest.forget();
        treeCount.forget();
        leastTree.forget();
        return machine.accepts();
    }

    public boolean reached(int slot, int j, int i) {
        return slot >= 0 && slot < rules.slots && isPlace(j) && isPlace(i) && machine.hasReached(slot, j, i);
    }

    public int looked(int what) {
        if (!machine.loaded) {
            return NONE;
        }
        switch (what) {
            case 0: return machine.furthest;
            case 1: return machine.expected;
            default: return NONE;
        }
    }

    public int count(int what) {
        switch (what) {
            case 0: return machine.descriptors;
            case 1: return machine.calls();
            case 2: return machine.callers();
            case 3: return forest.symbolNodes();
            case 4: return forest.innerNodes();
            case 5: return forest.packedNodes();
            case 6: return forest.usefulNodes(0);
            case 7: return forest.usefulNodes(2);
            default: return NONE;
        }
    }

    public int packed(int y, int i, int k) {
        if (y < 0 || y >= rules.nonterminals || !isPlace(i) || !isPlace(k)) {
            return 0;
        }
        return forest.packedIn(y, i, k);
    }

    public long trees() {
        if (!machine.accepts()) {
            return 0L;
        }
        treeCount.find();
        long number = treeCount.ofRoot();
        return number == TreeCount.UNKNOWN ? NONE : number;
    }

    public int least() {
        if (!machine.accepts()) {
            return 0;
        }
        leastTree.find();
        return (int) leastTree.ofRoot();
    }

    public int step(int k, int what) {
        if (!machine.accepts()) {
            return NONE;
        }
        leastTree.find();
        leastTree.walk();
        return leastTree.tell(k, what);
    }

    private void findFault() {
        faultKind = NO_FAULT;
        faultPlace = 0;
        int place = syntax.firstMisplaced(tape);
        if (place != NONE) {
            setFault(SYNTAX_FAULT, place);
            return;
        }
        place = syntax.secondRule(tape);
        if (place != NONE) {
            setFault(SECOND_RULE_FAULT, place);
            return;
        }
        place = syntax.nameWithoutRule(tape);
        if (place != NONE) {
            setFault(NO_RULE_FAULT, place);
            return;
        }
        draft.build(tape, syntax);
        if (draft.isTooMuch()) {
            setFault(TOO_MUCH_FAULT, 0);
        }
    }

    private void setFault(int kind, int place) {
        faultKind = kind;
        faultPlace = place;
    }

    private static boolean isName(int c) {
        return c >= 'A' && c <= 'Z';
    }

    private static boolean isLetter(int c) {
        return c >= 'a' && c <= 'z';
    }

    private static boolean isPlace(int i) {
        return i >= 0 && i < PLACES;
    }

    private static boolean has(int bits, int place) {
        return (bits >> place & 1) != 0;
    }

    /** A SET is told as a number below every nonterminal's and below NONE. */
    private static int codeOfSet(int bits) {
        return -2 - bits;
    }

    private static int setOfCode(int code) {
        return -2 - code;
    }

    /** What has been typed and not yet read. */
    private static final class Tape {
        private final byte[] characters;
        private int length;

        Tape() {
            characters = new byte[MAX_TAPE];
            length = 0;
        }

        boolean append(long word, int n) {
            if (n < 1 || n > MAX_WORD || length + n > MAX_TAPE) {
                return false;
            }
            for (int b = 0; b < n; b++) {
                int c = byteOf(word, b);
                if (c < BLANK || c > LAST_CHARACTER) {
                    return false;
                }
            }
            for (int b = n - 1; b >= 0; b--) {
                characters[length] = (byte) byteOf(word, b);
                length++;
            }
            return true;
        }

        private static int byteOf(long word, int b) {
            return (int) (word >>> 8 * b) & 255;
        }

        int at(int place) {
            return characters[place];
        }

        void clear() {
            length = 0;
        }
    }

    /** Looks for the faults that the characters of a text show. */
    private static final class Syntax {
        private static final int AT_RULE = 0;
        private static final int AT_EQUALS = 1;
        private static final int AT_ITEM = 2;
        private static final int BEHIND_ATOM = 3;
        private static final int AT_SET = 4;
        private static final int BEHIND_LETTER = 5;
        private static final int AT_RANGE_END = 6;
        private static final int BEHIND_RANGE = 7;
        private static final int NOWHERE = 8;

        private final int[] ruleOf;
        private int names;
        private int depth;
        private int rangeStart;

        Syntax() {
            ruleOf = new int[LETTERS];
            names = 0;
            depth = 0;
            rangeStart = 0;
        }

        int firstMisplaced(Tape text) {
            int state = AT_RULE;
            boolean any = false;
            depth = 0;
            for (int p = 0; p < text.length; p++) {
                int c = text.at(p);
                if (c != BLANK) {
                    state = next(state, c);
                    any = true;
                }
                if (state == NOWHERE) {
                    return p;
                }
            }
            return any && state == AT_RULE ? NONE : text.length;
        }

        private int next(int state, int c) {
            switch (state) {
                case AT_RULE: return isName(c) ? AT_EQUALS : NOWHERE;
                case AT_EQUALS: return c == '=' ? AT_ITEM : NOWHERE;
                case AT_ITEM: return nextInChoice(c);
                case BEHIND_ATOM: return c == '*' || c == '+' || c == '?' ? AT_ITEM : nextInChoice(c);
                default: return nextInSet(state, c);
            }
        }

        private int nextInChoice(int c) {
            if (isName(c) || isLetter(c)) {
                return BEHIND_ATOM;
            }
            switch (c) {
                case '[': return AT_SET;
                case '|': return AT_ITEM;
                case ';': return depth == 0 ? AT_RULE : NOWHERE;
                case '(':
                    depth++;
                    return depth <= MAX_DEPTH ? AT_ITEM : NOWHERE;
                case ')':
                    depth--;
                    return depth >= 0 ? BEHIND_ATOM : NOWHERE;
                default: return NOWHERE;
            }
        }

        private int nextInSet(int state, int c) {
            if (state == AT_RANGE_END) {
                return isLetter(c) && c >= rangeStart ? BEHIND_RANGE : NOWHERE;
            }
            if (isLetter(c)) {
                rangeStart = c;
                return BEHIND_LETTER;
            }
            if (c == '-' && state == BEHIND_LETTER) {
                return AT_RANGE_END;
            }
            return c == ']' && state != AT_SET ? BEHIND_ATOM : NOWHERE;
        }

        /** The rules' names are numbered on the way, as what is looked for next needs them. */
        int secondRule(Tape text) {
            Arrays.fill(ruleOf, NONE);
            names = 0;
            boolean atRule = true;
            for (int p = 0; p < text.length; p++) {
                int c = text.at(p);
                if (atRule && isName(c)) {
                    if (ruleOf[c - 'A'] != NONE) {
                        return p;
                    }
                    ruleOf[c - 'A'] = names;
                    names++;
                    atRule = false;
                } else if (c == ';') {
                    atRule = true;
                }
            }
            return NONE;
        }

        int nameWithoutRule(Tape text) {
            for (int p = 0; p < text.length; p++) {
                int c = text.at(p);
                if (isName(c) && ruleOf[c - 'A'] == NONE) {
                    return p;
                }
            }
            return NONE;
        }
    }

    /**
     * A faultless text's alternates, in the order in which they end. The place of the character
     * that opens a nonterminal stands for it until its number is known.
     */
    private static final class Draft {
        private final int[] numberAt;
        private final int[] openedAt;
        private final int[] sequenceFrom;
        private final int[] pending;
        private final int[] placeOf;
        private final int[] startOf;
        private final int[] symbol;
        private int names;
        private int nonterminals;
        private int alternates;
        private int symbols;
        private int rulesRead;
        private int depth;
        private int pendingCount;
        private boolean inRule;
        private boolean inSet;
        private boolean inRange;
        private int setBits;
        private int lastLetter;

        Draft() {
            numberAt = new int[MAX_TAPE];
            openedAt = new int[MAX_DEPTH + 1];
            sequenceFrom = new int[MAX_DEPTH + 1];
            pending = new int[MAX_TAPE + 1];
            placeOf = new int[MAX_ALTERNATES];
            startOf = new int[MAX_ALTERNATES + 1];
            symbol = new int[MAX_SYMBOLS];
        }

        boolean isTooMuch() {
            return nonterminals > MAX_NONTERMINALS || alternates > MAX_ALTERNATES || symbols > MAX_SYMBOLS;
        }

        void build(Tape text, Syntax syntax) {
            names = syntax.names;
            nonterminals = names;
            alternates = 0;
            symbols = 0;
            rulesRead = 0;
            depth = 0;
            pendingCount = 0;
            inRule = false;
            inSet = false;
            for (int p = 0; p < text.length; p++) {
                int c = text.at(p);
                if (inSet) {
                    readInSet(c);
                } else if (isLetter(c)) {
                    push(codeOfSet(1 << c - 'a'));
                } else if (isName(c)) {
                    readName(syntax.ruleOf[c - 'A']);
                } else {
                    readSign(c, p);
                }
            }
        }

        /** The name ahead of = is no symbol. */
        private void readName(int number) {
            if (inRule) {
                push(number);
            }
        }

        private void readSign(int c, int p) {
            switch (c) {
                case '=':
                    inRule = true;
                    numberAt[p] = rulesRead;
                    rulesRead++;
                    open(p);
                    break;
                case '(':
                    depth++;
                    open(p);
                    break;
                case '[':
                    inSet = true;
                    inRange = false;
                    setBits = 0;
                    break;
                case '|':
                    endSequence();
                    break;
                case ')':
                    endSequence();
                    endGroup();
                    break;
                case ';':
                    endSequence();
                    inRule = false;
                    break;
                case '*':
                case '+':
                case '?':
                    repeat(c, p);
                    break;
                default:
                    break;
            }
        }

        private void readInSet(int c) {
            if (c == ']') {
                inSet = false;
                push(codeOfSet(setBits));
            } else if (c == '-') {
                inRange = true;
            } else if (isLetter(c)) {
                int from = inRange ? lastLetter : c;
                setBits |= (2 << c - 'a') - (1 << from - 'a');
                lastLetter = c;
                inRange = false;
            }
        }

        private void push(int code) {
            pending[pendingCount] = code;
            pendingCount++;
        }

        private void open(int p) {
            openedAt[depth] = p;
            sequenceFrom[depth] = pendingCount;
        }

        private void endSequence() {
            addAlternate(openedAt[depth], sequenceFrom[depth], pendingCount);
            pendingCount = sequenceFrom[depth];
        }

        private void endGroup() {
            numberAt[openedAt[depth]] = nonterminals;
            depth--;
            push(nonterminals);
            nonterminals++;
        }

        /** The helper's own symbol is put behind x, so that both alternates can be cut from there. */
        private void repeat(int c, int p) {
            int helper = nonterminals;
            int x = pendingCount - 1;
            nonterminals++;
            numberAt[p] = helper;
            pending[x + 1] = helper;
            addAlternate(p, x, c == '?' ? x + 1 : x + 2);
            addAlternate(p, x, c == '+' ? x + 1 : x);
            pending[x] = helper;
        }

        /** What goes beyond the limits is counted, but not kept. */
        private void addAlternate(int place, int from, int to) {
            int length = to - from;
            if (alternates < MAX_ALTERNATES && symbols + length <= MAX_SYMBOLS) {
                placeOf[alternates] = place;
                startOf[alternates + 1] = symbols + length;
                System.arraycopy(pending, from, symbol, symbols, length);
            }
            alternates++;
            symbols += length;
        }
    }

    /** The grammar as numbers; with no slots there is none. */
    private static final class Grammar {
        private final int[] owner;
        private final int[] firstSlot;
        private final int[] firstAlternate;
        private final int[] alternateOf;
        private final int[] symbolBehind;
        private final int[] setBehind;
        private int names;
        private int nonterminals;
        private int alternates;
        private int slots;

        Grammar() {
            owner = new int[MAX_ALTERNATES];
            firstSlot = new int[MAX_ALTERNATES + 1];
            firstAlternate = new int[MAX_NONTERMINALS + 1];
            alternateOf = new int[MAX_SLOTS];
            symbolBehind = new int[MAX_SLOTS];
            setBehind = new int[MAX_SLOTS];
            names = 0;
            nonterminals = 0;
            alternates = 0;
            slots = 0;
        }

        void take(Draft draft) {
            names = draft.names;
            nonterminals = draft.nonterminals;
            alternates = 0;
            slots = 0;
            for (int y = 0; y < nonterminals; y++) {
                firstAlternate[y] = alternates;
                for (int d = 0; d < draft.alternates; d++) {
                    if (draft.numberAt[draft.placeOf[d]] == y) {
                        addAlternate(y, draft, d);
                    }
                }
            }
            firstAlternate[nonterminals] = alternates;
            firstSlot[alternates] = slots;
        }

        private void addAlternate(int y, Draft draft, int d) {
            owner[alternates] = y;
            firstSlot[alternates] = slots;
            for (int at = draft.startOf[d]; at < draft.startOf[d + 1]; at++) {
                addSlot(draft.symbol[at]);
            }
            addSlot(NONE);
            alternates++;
        }

        private void addSlot(int behind) {
            alternateOf[slots] = alternates;
            symbolBehind[slots] = behind;
            setBehind[slots] = behind < NONE ? setOfCode(behind) : 0;
            slots++;
        }

        int lengthOf(int alternate) {
            return lastSlot(alternate) - firstSlot[alternate];
        }

        int lastSlot(int alternate) {
            return firstSlot[alternate + 1] - 1;
        }

        int ownerOfSlot(int slot) {
            return owner[alternateOf[slot]];
        }

        int symbolsAhead(int slot) {
            return slot - firstSlot[alternateOf[slot]];
        }

        boolean isLast(int slot) {
            return symbolBehind[slot] == NONE;
        }

        boolean isInner(int slot) {
            return !isLast(slot) && symbolsAhead(slot) >= 2;
        }

        boolean isAheadOfNonterminal(int slot) {
            return symbolBehind[slot] >= 0;
        }
    }

    /** NULLABLE, FIRST, FOLLOW and SELECT of a grammar. */
    private static final class LetterSets {
        /** Each pass but the last adds a bit to some nonterminal. */
        private static final int MAX_PASSES = MAX_NONTERMINALS * (LETTERS + 2) + 1;

        private final Grammar rules;
        private final boolean[] nullable;
        private final int[] first;
        private final int[] follow;
        private final int[] select;

        LetterSets(Grammar rules) {
            this.rules = rules;
            nullable = new boolean[MAX_NONTERMINALS];
            first = new int[MAX_NONTERMINALS];
            follow = new int[MAX_NONTERMINALS];
            select = new int[MAX_SLOTS];
        }

        void find() {
            for (int y = 0; y < rules.nonterminals; y++) {
                nullable[y] = false;
                first[y] = 0;
                follow[y] = 0;
            }
            follow[START] = END;
            boolean grown = true;
            for (int pass = 0; grown && pass < MAX_PASSES; pass++) {
                grown = growFirst();
            }
            grown = true;
            for (int pass = 0; grown && pass < MAX_PASSES; pass++) {
                grown = growFollow();
            }
            for (int a = 0; a < rules.alternates; a++) {
                findSelect(a);
            }
        }

        private boolean growFirst() {
            boolean grown = false;
            for (int a = 0; a < rules.alternates; a++) {
                int y = rules.owner[a];
                int before = first[y];
                boolean wasNullable = nullable[y];
                addFirst(a, y);
                grown = grown || first[y] != before || nullable[y] != wasNullable;
            }
            return grown;
        }

        private void addFirst(int alternate, int y) {
            for (int s = rules.firstSlot[alternate]; s < rules.lastSlot(alternate); s++) {
                int symbol = rules.symbolBehind[s];
                first[y] |= firstOf(symbol);
                if (!canVanish(symbol)) {
                    return;
                }
            }
            nullable[y] = true;
        }

        private boolean growFollow() {
            boolean grown = false;
            for (int a = 0; a < rules.alternates; a++) {
                int behind = follow[rules.owner[a]];
                for (int s = rules.lastSlot(a) - 1; s >= rules.firstSlot[a]; s--) {
                    int symbol = rules.symbolBehind[s];
                    if (symbol >= 0) {
                        grown = grown || (behind & ~follow[symbol]) != 0;
                        follow[symbol] |= behind;
                    }
                    behind = firstOf(symbol) | (canVanish(symbol) ? behind : 0);
                }
            }
            return grown;
        }

        private void findSelect(int alternate) {
            int behind = follow[rules.owner[alternate]];
            int last = rules.lastSlot(alternate);
            select[last] = behind;
            for (int s = last - 1; s >= rules.firstSlot[alternate]; s--) {
                int symbol = rules.symbolBehind[s];
                behind = firstOf(symbol) | (canVanish(symbol) ? behind : 0);
                select[s] = behind;
            }
        }

        private int firstOf(int symbol) {
            return symbol >= 0 ? first[symbol] : setOfCode(symbol);
        }

        private boolean canVanish(int symbol) {
            return symbol >= 0 && nullable[symbol];
        }

        boolean areApart(int y) {
            int seen = 0;
            for (int a = rules.firstAlternate[y]; a < rules.firstAlternate[y + 1]; a++) {
                int mine = select[rules.firstSlot[a]];
                if ((seen & mine) != 0) {
                    return false;
                }
                seen |= mine;
            }
            return true;
        }
    }

    /** Work still to be done; a descriptor or a node is put here once at most. */
    private static final class Agenda {
        private static final int MAX_WORK = (MAX_SLOTS + MAX_NONTERMINALS) * SPANS;
        private static final int SQUARE = PLACES * PLACES;

        private final int[] work;
        private int length;

        Agenda() {
            work = new int[MAX_WORK];
            length = 0;
        }

        void clear() {
            length = 0;
        }

        void add(int row, int i, int k) {
            if (length < MAX_WORK) {
                work[length] = row * SQUARE + i * PLACES + k;
                length++;
            }
        }

        int row(int at) {
            return work[at] / SQUARE;
        }

        int from(int at) {
            return work[at] % SQUARE / PLACES;
        }

        int to(int at) {
            return work[at] % PLACES;
        }
    }

    /**
     * The machine of descriptors. What it reaches and the nodes that follow from it are kept as
     * bits, both by where they begin and by where they end, since both are asked for often.
     */
    private static final class Machine {
        private final Grammar rules;
        private final LetterSets sets;
        private final Agenda agenda;
        private final int[] standing;
        private final int[] reachedTo;
        private final int[] reachedFrom;
        private final int[] nodeTo;
        private final int[] nodeFrom;
        private final int[] calledAt;
        private boolean loaded;
        private int length;
        private int furthest;
        private int expected;
        private int descriptors;

        Machine(Grammar rules, LetterSets sets, Agenda agenda) {
            this.rules = rules;
            this.sets = sets;
            this.agenda = agenda;
            standing = new int[PLACES];
            reachedTo = new int[MAX_SLOTS * PLACES];
            reachedFrom = new int[MAX_SLOTS * PLACES];
            nodeTo = new int[MAX_NONTERMINALS * PLACES];
            nodeFrom = new int[MAX_NONTERMINALS * PLACES];
            calledAt = new int[MAX_NONTERMINALS];
            loaded = false;
            length = 0;
            furthest = 0;
            expected = 0;
            descriptors = 0;
        }

        void clear() {
            Arrays.fill(reachedTo, 0);
            Arrays.fill(reachedFrom, 0);
            Arrays.fill(nodeTo, 0);
            Arrays.fill(nodeFrom, 0);
            Arrays.fill(calledAt, 0);
            loaded = false;
            furthest = 0;
            expected = 0;
            descriptors = 0;
        }

        /** The input before stays unless the whole tape is one. */
        boolean load(Tape text) {
            if (!isInput(text)) {
                return false;
            }
            length = 0;
            for (int p = 0; p < text.length; p++) {
                int c = text.at(p);
                if (c != BLANK) {
                    standing[length] = 1 << c - 'a';
                    length++;
                }
            }
            standing[length] = END;
            return true;
        }

        private static boolean isInput(Tape text) {
            int letters = 0;
            for (int p = 0; p < text.length; p++) {
                int c = text.at(p);
                if (c != BLANK) {
                    letters++;
                    if (!isLetter(c) || letters > MAX_INPUT) {
                        return false;
                    }
                }
            }
            return true;
        }

        void run() {
            clear();
            loaded = true;
            agenda.clear();
            enter(START, 0);
            for (int at = 0; at < agenda.length && at < Agenda.MAX_WORK; at++) {
                goOn(agenda.row(at), agenda.from(at), agenda.to(at));
            }
            descriptors = agenda.length;
        }

        private void goOn(int slot, int j, int i) {
            int symbol = rules.symbolBehind[slot];
            if (symbol == NONE) {
                leave(rules.ownerOfSlot(slot), j, i);
            } else if (symbol >= 0) {
                enter(symbol, i);
                int ends = nodeTo[symbol * PLACES + i];
                for (int k = i; k <= length; k++) {
                    if (has(ends, k)) {
                        attempt(slot + 1, j, k);
                    }
                }
            } else if ((rules.setBehind[slot] & standing[i]) != 0) {
                attempt(slot + 1, j, i + 1);
            }
        }

        private void enter(int y, int i) {
            if (has(calledAt[y], i)) {
                return;
            }
            calledAt[y] |= 1 << i;
            for (int a = rules.firstAlternate[y]; a < rules.firstAlternate[y + 1]; a++) {
                attempt(rules.firstSlot[a], i, i);
            }
        }

        /** Slots that come to wait for this node later find it by themselves. */
        private void leave(int y, int i, int k) {
            if (has(nodeTo[y * PLACES + i], k)) {
                return;
            }
            nodeTo[y * PLACES + i] |= 1 << k;
            nodeFrom[y * PLACES + k] |= 1 << i;
            for (int s = 0; s < rules.slots; s++) {
                if (rules.symbolBehind[s] == y) {
                    resume(s, i, k);
                }
            }
        }

        private void resume(int slot, int i, int k) {
            int waiting = reachedFrom[slot * PLACES + i];
            for (int j = 0; waiting != 0 && j <= i; j++) {
                if (has(waiting, j)) {
                    attempt(slot + 1, j, k);
                }
            }
        }

        private void attempt(int slot, int j, int i) {
            if (i > furthest) {
                furthest = i;
                expected = 0;
            }
            if (i == furthest) {
                expected |= sets.select[slot];
            }
            if ((sets.select[slot] & standing[i]) != 0 && !hasReached(slot, j, i)) {
                reachedTo[slot * PLACES + j] |= 1 << i;
                reachedFrom[slot * PLACES + i] |= 1 << j;
                agenda.add(slot, j, i);
            }
        }

        boolean hasReached(int slot, int j, int i) {
            return (reachedTo[slot * PLACES + j] >> i & 1) != 0;
        }

        boolean accepts() {
            return loaded && has(nodeTo[START * PLACES], length);
        }

        int calls() {
            int sum = 0;
            for (int y = 0; y < rules.nonterminals; y++) {
                sum += Integer.bitCount(calledAt[y]);
            }
            return sum;
        }

        int callers() {
            int sum = 0;
            for (int s = 0; s < rules.slots; s++) {
                if (rules.isAheadOfNonterminal(s)) {
                    sum += reachedBy(s);
                }
            }
            return sum;
        }

        int reachedBy(int slot) {
            int sum = 0;
            for (int j = 0; j < PLACES; j++) {
                sum += Integer.bitCount(reachedTo[slot * PLACES + j]);
            }
            return sum;
        }

        /** As bits, the places from which the symbol behind a slot covers the input up to k. */
        int startsOfNext(int slot, int k) {
            int symbol = rules.symbolBehind[slot];
            if (symbol >= 0) {
                return nodeFrom[symbol * PLACES + k];
            }
            return k > 0 && (rules.setBehind[slot] & standing[k - 1]) != 0 ? 1 << k - 1 : 0;
        }
    }

    /** The nodes that what was reached makes up. */
    private static final class Forest {
        private final Grammar rules;
        private final Machine machine;
        private final Agenda agenda;
        private final int[] usefulNode;
        private final int[] usefulSlot;
        private boolean marked;

        Forest(Grammar rules, Machine machine, Agenda agenda) {
            this.rules = rules;
            this.machine = machine;
            this.agenda = agenda;
            usefulNode = new int[MAX_NONTERMINALS * PLACES];
            usefulSlot = new int[MAX_SLOTS * PLACES];
            marked = false;
        }

        void forget() {
            marked = false;
        }

        /** As bits, the pivots with which a slot that has a symbol ahead of it covers i to k. */
        int pivots(int slot, int i, int k) {
            int before = slot - 1;
            return machine.reachedTo[before * PLACES + i] & machine.startsOfNext(before, k);
        }

        /** How many packed nodes come from a slot that is reached. */
        private int packedAt(int slot, int i, int k) {
            if (!machine.hasReached(slot, i, k)) {
                return 0;
            }
            return rules.symbolsAhead(slot) == 0 ? 1 : Integer.bitCount(pivots(slot, i, k));
        }

        int packedIn(int y, int i, int k) {
            int sum = 0;
            for (int a = rules.firstAlternate[y]; a < rules.firstAlternate[y + 1]; a++) {
                sum += packedAt(rules.lastSlot(a), i, k);
            }
            return sum;
        }

        int symbolNodes() {
            int sum = 0;
            for (int at = 0; at < rules.nonterminals * PLACES; at++) {
                sum += Integer.bitCount(machine.nodeTo[at]);
            }
            return sum;
        }

        int innerNodes() {
            int sum = 0;
            for (int s = 0; s < rules.slots; s++) {
                if (rules.isInner(s)) {
                    sum += machine.reachedBy(s);
                }
            }
            return sum;
        }

        int packedNodes() {
            int sum = 0;
            for (int s = 0; s < rules.slots; s++) {
                if (rules.isLast(s) || rules.isInner(s)) {
                    sum += packedBy(s);
                }
            }
            return sum;
        }

        private int packedBy(int slot) {
            int sum = 0;
            for (int i = 0; i < PLACES; i++) {
                for (int k = i; k < PLACES; k++) {
                    sum += packedAt(slot, i, k);
                }
            }
            return sum;
        }

        /** How many useful symbol nodes there are with at least so many packed nodes. */
        int usefulNodes(int leastPacked) {
            if (!machine.accepts()) {
                return 0;
            }
            if (!marked) {
                mark();
            }
            int sum = 0;
            for (int y = 0; y < rules.nonterminals; y++) {
                for (int i = 0; i < PLACES; i++) {
                    sum += usefulFrom(y, i, leastPacked);
                }
            }
            return sum;
        }

        private int usefulFrom(int y, int i, int leastPacked) {
            int ends = usefulNode[y * PLACES + i];
            int sum = 0;
            for (int k = i; ends != 0 && k < PLACES; k++) {
                if (has(ends, k) && packedIn(y, i, k) >= leastPacked) {
                    sum++;
                }
            }
            return sum;
        }

        /** On the agenda, nodes have the rows behind those of the slots. */
        private void mark() {
            marked = true;
            Arrays.fill(usefulNode, 0);
            Arrays.fill(usefulSlot, 0);
            agenda.clear();
            markNode(START, 0, machine.length);
            for (int at = 0; at < agenda.length && at < Agenda.MAX_WORK; at++) {
                int row = agenda.row(at);
                if (row >= MAX_SLOTS) {
                    markInNode(row - MAX_SLOTS, agenda.from(at), agenda.to(at));
                } else {
                    markAheadOf(row, agenda.from(at), agenda.to(at));
                }
            }
        }

        private void markNode(int y, int i, int k) {
            if (!has(usefulNode[y * PLACES + i], k)) {
                usefulNode[y * PLACES + i] |= 1 << k;
                agenda.add(MAX_SLOTS + y, i, k);
            }
        }

        private void markSlot(int slot, int i, int k) {
            if (!has(usefulSlot[slot * PLACES + i], k)) {
                usefulSlot[slot * PLACES + i] |= 1 << k;
                agenda.add(slot, i, k);
            }
        }

        private void markInNode(int y, int i, int k) {
            for (int a = rules.firstAlternate[y]; a < rules.firstAlternate[y + 1]; a++) {
                int last = rules.lastSlot(a);
                if (machine.hasReached(last, i, k)) {
                    markSlot(last, i, k);
                }
            }
        }

        private void markAheadOf(int slot, int i, int k) {
            if (rules.symbolsAhead(slot) == 0) {
                return;
            }
            int pivots = pivots(slot, i, k);
            int symbol = rules.symbolBehind[slot - 1];
            for (int p = i; p <= k; p++) {
                if (has(pivots, p)) {
                    markSlot(slot - 1, i, p);
                    if (symbol >= 0) {
                        markNode(symbol, p, k);
                    }
                }
            }
        }
    }

    /**
     * A number for each reached slot and each symbol node, found from the short spans to the long
     * ones: a node's parts are in spans within its own. Only those of its very span can depend on
     * one another, which is why each span is swept until no node moves.
     */
    private abstract static class Measure {
        /** In each sweep but the last a node of another nonterminal comes to its end. */
        private static final int MAX_SWEEPS = MAX_NONTERMINALS + 1;

        final Grammar rules;
        final Machine machine;
        final Forest forest;
        final long[] slotValue;
        final long[] nodeValue;
        private final long ofNothing;
        private final long ofUnknown;
        private boolean found;

        /** Told are the values of nothing at all and of a node that is yet to be looked at. */
        Measure(Grammar rules, Machine machine, Forest forest, long ofNothing, long ofUnknown) {
            this.rules = rules;
            this.machine = machine;
            this.forest = forest;
            this.ofNothing = ofNothing;
            this.ofUnknown = ofUnknown;
            slotValue = new long[MAX_SLOTS * SPANS];
            nodeValue = new long[MAX_NONTERMINALS * SPANS];
            found = false;
        }

        abstract long measureSlot(int slot, int i, int k);

        abstract long measureNode(int y, int i, int k);

        /** Spans begin no later than they end, so half a square is room enough for a row of them. */
        static int at(int row, int i, int k) {
            return row * SPANS + k * (k + 1) / 2 + i;
        }

        void forget() {
            found = false;
        }

        long ofRoot() {
            return nodeValue[at(START, 0, machine.length)];
        }

        void find() {
            if (found) {
                return;
            }
            found = true;
            for (int width = 0; width <= machine.length; width++) {
                for (int i = 0; i + width <= machine.length; i++) {
                    settle(i, i + width);
                }
            }
        }

        private void settle(int i, int k) {
            for (int y = 0; y < rules.nonterminals; y++) {
                nodeValue[at(y, i, k)] = ofUnknown;
            }
            boolean moved = true;
            for (int sweep = 0; moved && sweep < MAX_SWEEPS; sweep++) {
                sweepSlots(i, k);
                moved = sweepNodes(i, k);
            }
        }

        private void sweepSlots(int i, int k) {
            for (int s = 0; s < rules.slots; s++) {
                if (machine.hasReached(s, i, k)) {
                    slotValue[at(s, i, k)] = rules.symbolsAhead(s) == 0 ? ofNothing : measureSlot(s, i, k);
                }
            }
        }

        private boolean sweepNodes(int i, int k) {
            boolean moved = false;
            for (int y = 0; y < rules.nonterminals; y++) {
                if (has(machine.nodeTo[y * PLACES + i], k)) {
                    long value = measureNode(y, i, k);
                    int at = at(y, i, k);
                    moved = moved || nodeValue[at] != value;
                    nodeValue[at] = value;
                }
            }
            return moved;
        }
    }

    /**
     * How many trees there are. Every node has one at least, so no number but 0 is free to mean that
     * it is unknown. What its span's sweeps leave unknown leads round in a circle: its trees are
     * without end, and so are those of all that it is a part of.
     */
    private static final class TreeCount extends Measure {
        private static final long UNKNOWN = 0L;

        TreeCount(Grammar rules, Machine machine, Forest forest) {
            super(rules, machine, forest, 1L, UNKNOWN);
        }

        long measureSlot(int slot, int i, int k) {
            int pivots = forest.pivots(slot, i, k);
            int symbol = rules.symbolBehind[slot - 1];
            long sum = 0L;
            for (int p = i; p <= k; p++) {
                if (has(pivots, p)) {
                    long ahead = slotValue[at(slot - 1, i, p)];
                    long ofSymbol = symbol >= 0 ? nodeValue[at(symbol, p, k)] : 1L;
                    if (ahead == UNKNOWN || ofSymbol == UNKNOWN) {
                        return UNKNOWN;
                    }
                    sum = Math.min(sum + times(ahead, ofSymbol), MOST_TREES);
                }
            }
            return sum;
        }

        long measureNode(int y, int i, int k) {
            long sum = 0L;
            for (int a = rules.firstAlternate[y]; a < rules.firstAlternate[y + 1]; a++) {
                int last = rules.lastSlot(a);
                if (machine.hasReached(last, i, k)) {
                    long mine = slotValue[at(last, i, k)];
                    if (mine == UNKNOWN) {
                        return UNKNOWN;
                    }
                    sum = Math.min(sum + mine, MOST_TREES);
                }
            }
            return sum;
        }

        private static long times(long a, long b) {
            return b > 0L && a > MOST_TREES / b ? MOST_TREES : a * b;
        }
    }

    /**
     * The least tree. The most that a SIZE counts as stands for what is not known yet: it gives way
     * to every lesser one, and what never does so counts as that.
     */
    private static final class LeastTree extends Measure {
        private final int[] stepRow;
        private final int[] stepFrom;
        private final int[] stepTo;
        private int steps;
        private boolean walked;

        LeastTree(Grammar rules, Machine machine, Forest forest) {
            super(rules, machine, forest, 0L, MOST_IN_TREE);
            stepRow = new int[MAX_STEPS];
            stepFrom = new int[MAX_STEPS];
            stepTo = new int[MAX_STEPS];
            steps = 0;
            walked = false;
        }

        long measureSlot(int slot, int i, int k) {
            int pivots = forest.pivots(slot, i, k);
            long best = MOST_IN_TREE;
            for (int p = i; p <= k; p++) {
                if (has(pivots, p)) {
                    best = Math.min(best, sizeWithPivot(slot, i, p, k));
                }
            }
            return best;
        }

        long measureNode(int y, int i, int k) {
            long best = MOST_IN_TREE;
            for (int a = rules.firstAlternate[y]; a < rules.firstAlternate[y + 1]; a++) {
                int last = rules.lastSlot(a);
                if (machine.hasReached(last, i, k)) {
                    best = Math.min(best, sizeWithNode(last, i, k));
                }
            }
            return best;
        }

        private long sizeWithPivot(int slot, int i, int p, int k) {
            int symbol = rules.symbolBehind[slot - 1];
            long ofSymbol = symbol >= 0 ? nodeValue[at(symbol, p, k)] : 0L;
            return Math.min(slotValue[at(slot - 1, i, p)] + ofSymbol, MOST_IN_TREE);
        }

        private long sizeWithNode(int last, int i, int k) {
            return Math.min(slotValue[at(last, i, k)] + 1L, MOST_IN_TREE);
        }

        void forget() {
            super.forget();
            walked = false;
        }

        int tell(int k, int what) {
            if (k < 0 || k >= steps) {
                return NONE;
            }
            switch (what) {
                case 0: return stepRow[k];
                case 1: return stepFrom[k];
                case 2: return stepTo[k];
                default: return NONE;
            }
        }

        /** A step's row is its nonterminal first, and its alternate when it has been gone into. */
        void walk() {
            if (walked) {
                return;
            }
            walked = true;
            steps = 1;
            write(0, START, 0, machine.length);
            for (int at = 0; at < steps && at < MAX_STEPS; at++) {
                goInto(at);
            }
        }

        private void write(int at, int row, int i, int k) {
            if (at < MAX_STEPS) {
                stepRow[at] = row;
                stepFrom[at] = i;
                stepTo[at] = k;
            }
        }

        private void goInto(int at) {
            int i = stepFrom[at];
            int k = stepTo[at];
            int alternate = leastAlternate(stepRow[at], i, k);
            int parts = nonterminalsIn(alternate);
            stepRow[at] = alternate;
            makeRoom(at + 1, parts);
            int free = at + parts;
            for (int s = rules.lastSlot(alternate); s > rules.firstSlot[alternate]; s--) {
                int p = leastPivot(s, i, k);
                if (rules.isAheadOfNonterminal(s - 1)) {
                    write(free, rules.symbolBehind[s - 1], p, k);
                    free--;
                }
                k = p;
            }
        }

        private int nonterminalsIn(int alternate) {
            int sum = 0;
            for (int s = rules.firstSlot[alternate]; s < rules.lastSlot(alternate); s++) {
                if (rules.isAheadOfNonterminal(s)) {
                    sum++;
                }
            }
            return sum;
        }

        /** Steps that are moved beyond the last one told are never asked for. */
        private void makeRoom(int at, int room) {
            int kept = Math.min(steps, MAX_STEPS - room) - at;
            if (kept > 0) {
                System.arraycopy(stepRow, at, stepRow, at + room, kept);
                System.arraycopy(stepFrom, at, stepFrom, at + room, kept);
                System.arraycopy(stepTo, at, stepTo, at + room, kept);
            }
            steps = Math.min(steps + room, MAX_STEPS);
        }

        private int leastAlternate(int y, int i, int k) {
            int last = rules.firstAlternate[y + 1] - 1;
            long size = nodeValue[at(y, i, k)];
            for (int a = rules.firstAlternate[y]; a < last; a++) {
                int slot = rules.lastSlot(a);
                if (machine.hasReached(slot, i, k) && sizeWithNode(slot, i, k) == size) {
                    return a;
                }
            }
            return last;
        }

        private int leastPivot(int slot, int i, int k) {
            int pivots = forest.pivots(slot, i, k);
            long size = slotValue[at(slot, i, k)];
            for (int p = i; p < k; p++) {
                if (has(pivots, p) && sizeWithPivot(slot, i, p, k) == size) {
                    return p;
                }
            }
            return k;
        }
    }
}
