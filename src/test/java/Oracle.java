import java.math.BigInteger;
import java.util.ArrayDeque;
import java.util.ArrayList;
import java.util.Deque;
import java.util.HashMap;
import java.util.HashSet;
import java.util.LinkedHashMap;
import java.util.List;
import java.util.Map;
import java.util.Set;
import java.util.TreeMap;

/** The document's terms, written out as plainly as the Java library allows, to hold answers against. */
final class Oracle {
    static final int END = 1 << 26;
    static final BigInteger TREE_LIMIT = BigInteger.valueOf(1_000_000_000L);
    static final BigInteger TREES_LIMIT = BigInteger.valueOf(1_000_000_000_000L);

    record Descriptor(int slot, int j, int i) { }

    /** An inner node has the row of its slot, a symbol node that of its nonterminal behind all slots. */
    record Node(boolean symbol, int row, int i, int k) { }

    record Packed(int alternate, int pivot, List<Node> parts) { }

    private static final class Fault extends Exception {
        private static final long serialVersionUID = 1L;
        final int kind;
        final int place;

        Fault(int kind, int place) {
            this.kind = kind;
            this.place = place;
        }
    }

    int faultKind;
    int faultPlace;
    int names;
    List<Integer> owners = new ArrayList<>();
    List<List<Integer>> bodies = new ArrayList<>();
    int nonterminals;
    int symbols;
    List<Integer> firstSlots = new ArrayList<>();
    List<int[]> slots = new ArrayList<>();
    boolean[] nullable;
    int[] first;
    int[] follow;
    int[] select;

    private final String text;
    private int at;
    private int depth;
    private final Map<Character, Integer> rulePlace = new LinkedHashMap<>();
    private final Map<Integer, Character> usedNames = new TreeMap<>();
    private int secondRule = -1;
    private int helpers;
    private final Map<Integer, List<List<Object>>> choices = new HashMap<>();
    private final Map<Character, List<List<Object>>> ruleChoices = new LinkedHashMap<>();

    Oracle(String text) {
        this.text = text;
        try {
            read();
            number();
            findSets();
        } catch (Fault f) {
            faultKind = f.kind;
            faultPlace = f.place;
        }
    }

    // ---- the text, by recursive descent; a helper is an Integer from 1000 on until all names are known

    private int peek() {
        while (at < text.length() && text.charAt(at) == ' ') {
            at++;
        }
        return at < text.length() ? text.charAt(at) : -1;
    }

    private void expect(boolean fits) throws Fault {
        if (!fits) {
            throw new Fault(1, at);
        }
        at++;
    }

    private static boolean isName(int c) {
        return c >= 'A' && c <= 'Z';
    }

    private static boolean isLetter(int c) {
        return c >= 'a' && c <= 'z';
    }

    private void read() throws Fault {
        do {
            int c = peek();
            int place = at;
            expect(isName(c));
            expect(peek() == '=');
            List<List<Object>> choice = choice();
            expect(peek() == ';');
            if (rulePlace.containsKey((char) c)) {
                secondRule = secondRule < 0 ? place : secondRule;
            } else {
                rulePlace.put((char) c, place);
                ruleChoices.put((char) c, choice);
            }
        } while (peek() != -1);
        if (secondRule >= 0) {
            throw new Fault(2, secondRule);
        }
        for (Map.Entry<Integer, Character> used : usedNames.entrySet()) {
            if (!rulePlace.containsKey(used.getValue())) {
                throw new Fault(3, used.getKey());
            }
        }
    }

    private List<List<Object>> choice() throws Fault {
        List<List<Object>> choice = new ArrayList<>();
        choice.add(sequence());
        while (peek() == '|') {
            at++;
            choice.add(sequence());
        }
        return choice;
    }

    private List<Object> sequence() throws Fault {
        List<Object> items = new ArrayList<>();
        while (true) {
            int c = peek();
            if (!isName(c) && !isLetter(c) && c != '[' && c != '(') {
                return items;
            }
            items.add(item());
        }
    }

    private Object item() throws Fault {
        Object x = atom();
        int c = peek();
        if (c != '*' && c != '+' && c != '?') {
            return x;
        }
        at++;
        int h = 1000 + helpers++;
        List<List<Object>> alternates = new ArrayList<>();
        alternates.add(c == '?' ? List.of(x) : List.of(x, h));
        alternates.add(c == '+' ? List.of(x) : List.of());
        choices.put(h, alternates);
        return h;
    }

    private Object atom() throws Fault {
        int c = peek();
        if (isName(c)) {
            usedNames.put(at, (char) c);
            at++;
            return (char) c;
        }
        if (isLetter(c)) {
            at++;
            return -2 - (1 << c - 'a');
        }
        if (c == '[') {
            at++;
            return set();
        }
        expect(depth < 6);
        depth++;
        List<List<Object>> choice = choice();
        expect(peek() == ')');
        depth--;
        int h = 1000 + helpers++;
        choices.put(h, choice);
        return h;
    }

    private int set() throws Fault {
        int bits = 0;
        do {
            int from = peek();
            expect(isLetter(from));
            int to = from;
            if (peek() == '-') {
                at++;
                to = peek();
                expect(isLetter(to) && to >= from);
            }
            for (int c = from; c <= to; c++) {
                bits |= 1 << c - 'a';
            }
            if (peek() != ']' && !isLetter(peek())) {
                throw new Fault(1, at);
            }
        } while (peek() != ']');
        at++;
        return -2 - bits;
    }

    private void number() throws Fault {
        names = ruleChoices.size();
        nonterminals = names + helpers;
        List<Character> order = new ArrayList<>(ruleChoices.keySet());
        for (int y = 0; y < nonterminals; y++) {
            List<List<Object>> choice = y < names ? ruleChoices.get(order.get(y)) : choices.get(1000 + y - names);
            for (List<Object> sequence : choice) {
                List<Integer> body = new ArrayList<>();
                for (Object o : sequence) {
                    if (o instanceof Character c) {
                        body.add(order.indexOf(c));
                    } else {
                        int v = (Integer) o;
                        body.add(v >= 1000 ? v - 1000 + names : v);
                    }
                }
                owners.add(y);
                bodies.add(body);
                symbols += body.size();
            }
        }
        if (nonterminals > 20 || bodies.size() > 48 || symbols > 150) {
            throw new Fault(4, 0);
        }
        for (int a = 0; a < bodies.size(); a++) {
            firstSlots.add(slots.size());
            for (int d = 0; d <= bodies.get(a).size(); d++) {
                slots.add(new int[] {a, d});
            }
        }
    }

    // ---- the sets

    int firstOf(List<Integer> body) {
        int bits = 0;
        for (int x : body) {
            bits |= x >= 0 ? first[x] : -2 - x;
            if (x < 0 || !nullable[x]) {
                break;
            }
        }
        return bits;
    }

    boolean isNullable(List<Integer> body) {
        for (int x : body) {
            if (x < 0 || !nullable[x]) {
                return false;
            }
        }
        return true;
    }

    private void findSets() {
        nullable = new boolean[nonterminals];
        first = new int[nonterminals];
        follow = new int[nonterminals];
        follow[0] = END;
        for (int round = 0; round < 700; round++) {
            for (int a = 0; a < bodies.size(); a++) {
                List<Integer> body = bodies.get(a);
                int y = owners.get(a);
                nullable[y] |= isNullable(body);
                first[y] |= firstOf(body);
                for (int d = 0; d < body.size(); d++) {
                    int x = body.get(d);
                    if (x >= 0) {
                        List<Integer> rest = body.subList(d + 1, body.size());
                        follow[x] |= firstOf(rest) | (isNullable(rest) ? follow[y] : 0);
                    }
                }
            }
        }
        select = new int[slots.size()];
        for (int s = 0; s < slots.size(); s++) {
            List<Integer> body = bodies.get(slots.get(s)[0]);
            List<Integer> rest = body.subList(slots.get(s)[1], body.size());
            select[s] = firstOf(rest) | (isNullable(rest) ? follow[owners.get(slots.get(s)[0])] : 0);
        }
    }

    boolean apart(int y) {
        for (int a = 0; a < bodies.size(); a++) {
            for (int b = a + 1; b < bodies.size(); b++) {
                if (owners.get(a) == y && owners.get(b) == y
                        && (select[firstSlots.get(a)] & select[firstSlots.get(b)]) != 0) {
                    return false;
                }
            }
        }
        return true;
    }

    // ---- an input

    int n;
    int[] standing;
    int furthest;
    int expected;
    Set<Descriptor> reached = new HashSet<>();
    Set<List<Integer>> calls = new HashSet<>();
    Map<Node, List<Packed>> forest = new HashMap<>();
    Node root;

    int symbolBehind(int slot) {
        List<Integer> body = bodies.get(slots.get(slot)[0]);
        int d = slots.get(slot)[1];
        return d < body.size() ? body.get(d) : -1;
    }

    int ahead(int slot) {
        return slots.get(slot)[1];
    }

    int ownerOf(int slot) {
        return owners.get(slots.get(slot)[0]);
    }

    void parse(String input) {
        n = input.length();
        standing = new int[n + 1];
        for (int i = 0; i < n; i++) {
            standing[i] = 1 << input.charAt(i) - 'a';
        }
        standing[n] = END;
        reached = new HashSet<>();
        forest = new HashMap<>();
        calls = new HashSet<>();
        calls.add(List.of(0, 0));
        Set<Descriptor> tried = findTried();
        furthest = 0;
        for (Descriptor d : tried) {
            furthest = Math.max(furthest, d.i);
        }
        expected = 0;
        for (Descriptor d : tried) {
            expected |= d.i == furthest ? select[d.slot] : 0;
        }
        for (Descriptor d : reached) {
            if (symbolBehind(d.slot) >= 0) {
                calls.add(List.of(symbolBehind(d.slot), d.i));
            }
        }
        for (Descriptor d : reached) {
            if (symbolBehind(d.slot) == -1) {
                forest.put(new Node(true, ownerOf(d.slot), d.j, d.i), new ArrayList<>());
            } else if (ahead(d.slot) >= 2) {
                forest.put(new Node(false, d.slot, d.j, d.i), new ArrayList<>());
            }
        }
        for (Node node : forest.keySet()) {
            pack(node);
        }
        Node top = new Node(true, 0, 0, n);
        root = forest.containsKey(top) ? top : null;
    }

    private Set<Descriptor> findTried() {
        Set<Descriptor> tried = new HashSet<>();
        Deque<Descriptor> fresh = new ArrayDeque<>();
        Map<List<Integer>, Set<Integer>> ends = new HashMap<>();
        Map<List<Integer>, Set<Descriptor>> waiting = new HashMap<>();
        addFirstSlots(0, 0, fresh);
        while (!fresh.isEmpty()) {
            Descriptor d = fresh.pop();
            if (!tried.add(d) || (select[d.slot] & standing[d.i]) == 0) {
                continue;
            }
            reached.add(d);
            int x = symbolBehind(d.slot);
            if (x == -1) {
                List<Integer> key = List.of(ownerOf(d.slot), d.j);
                ends.computeIfAbsent(key, z -> new HashSet<>()).add(d.i);
                for (Descriptor w : waiting.getOrDefault(key, Set.of())) {
                    fresh.push(new Descriptor(w.slot + 1, w.j, d.i));
                }
            } else if (x >= 0) {
                List<Integer> key = List.of(x, d.i);
                addFirstSlots(x, d.i, fresh);
                waiting.computeIfAbsent(key, z -> new HashSet<>()).add(d);
                for (int k : ends.getOrDefault(key, Set.of())) {
                    fresh.push(new Descriptor(d.slot + 1, d.j, k));
                }
            } else if ((-2 - x & standing[d.i]) != 0) {
                fresh.push(new Descriptor(d.slot + 1, d.j, d.i + 1));
            }
        }
        return tried;
    }

    private void addFirstSlots(int y, int i, Deque<Descriptor> fresh) {
        for (int a = 0; a < bodies.size(); a++) {
            if (owners.get(a) == y) {
                fresh.push(new Descriptor(firstSlots.get(a), i, i));
            }
        }
    }

    private void pack(Node node) {
        for (int s = 0; s < slots.size(); s++) {
            boolean mine = node.symbol ? symbolBehind(s) == -1 && ownerOf(s) == node.row : s == node.row;
            if (!mine || !reached.contains(new Descriptor(s, node.i, node.k))) {
                continue;
            }
            List<Packed> packed = forest.get(node);
            int alternate = slots.get(s)[0];
            if (ahead(s) == 0) {
                packed.add(new Packed(alternate, node.i, List.of()));
                continue;
            }
            int x = symbolBehind(s - 1);
            for (int p = node.i; p <= node.k; p++) {
                boolean covers = x >= 0 ? forest.containsKey(new Node(true, x, p, node.k))
                        : node.k == p + 1 && (-2 - x & standing[p]) != 0;
                if (covers && reached.contains(new Descriptor(s - 1, node.i, p))) {
                    packed.add(new Packed(alternate, p, parts(s, node.i, p, node.k)));
                }
            }
        }
    }

    private List<Node> parts(int s, int i, int p, int k) {
        List<Node> parts = new ArrayList<>();
        if (ahead(s) == 2 && symbolBehind(s - 2) >= 0) {
            parts.add(new Node(true, symbolBehind(s - 2), i, p));
        } else if (ahead(s) > 2) {
            parts.add(new Node(false, s - 1, i, p));
        }
        if (symbolBehind(s - 1) >= 0) {
            parts.add(new Node(true, symbolBehind(s - 1), p, k));
        }
        return parts;
    }

    int count(int what) {
        int sum = 0;
        switch (what) {
            case 0: return reached.size();
            case 1: return calls.size();
            case 2:
                for (Descriptor d : reached) {
                    sum += symbolBehind(d.slot) >= 0 ? 1 : 0;
                }
                return sum;
            case 3:
            case 4:
                for (Node node : forest.keySet()) {
                    sum += node.symbol == (what == 3) ? 1 : 0;
                }
                return sum;
            case 5:
                for (List<Packed> packed : forest.values()) {
                    sum += packed.size();
                }
                return sum;
            case 6:
            case 7:
                for (Node node : below()) {
                    sum += node.symbol && (what == 6 || forest.get(node).size() >= 2) ? 1 : 0;
                }
                return sum;
            default: return -1;
        }
    }

    private Set<Node> below() {
        Set<Node> seen = new HashSet<>();
        Deque<Node> fresh = new ArrayDeque<>();
        if (root != null) {
            fresh.push(root);
        }
        while (!fresh.isEmpty()) {
            Node node = fresh.pop();
            if (seen.add(node)) {
                for (Packed packed : forest.get(node)) {
                    packed.parts.forEach(fresh::push);
                }
            }
        }
        return seen;
    }

    // ---- trees

    private final Map<Node, BigInteger> ways = new HashMap<>();
    private final Set<Node> open = new HashSet<>();

    private static final class Endless extends RuntimeException {
        private static final long serialVersionUID = 1L;
    }

    long trees() {
        if (root == null) {
            return 0;
        }
        ways.clear();
        open.clear();
        try {
            return waysOf(root).min(TREES_LIMIT).longValue();
        } catch (Endless e) {
            return -1;
        }
    }

    private BigInteger waysOf(Node node) {
        if (ways.containsKey(node)) {
            return ways.get(node);
        }
        if (!open.add(node)) {
            throw new Endless();
        }
        BigInteger sum = BigInteger.ZERO;
        for (Packed packed : forest.get(node)) {
            BigInteger product = BigInteger.ONE;
            for (Node part : packed.parts) {
                product = product.multiply(waysOf(part));
            }
            sum = sum.add(product);
        }
        open.remove(node);
        ways.put(node, sum);
        return sum;
    }

    private final Map<Node, BigInteger> sizes = new HashMap<>();

    private BigInteger sizeIn(Packed packed) {
        BigInteger sum = BigInteger.ZERO;
        for (Node part : packed.parts) {
            if (!sizes.containsKey(part)) {
                return null;
            }
            sum = sum.add(sizes.get(part));
        }
        return sum;
    }

    int least() {
        sizes.clear();
        boolean moved = true;
        while (moved) {
            moved = false;
            for (Node node : forest.keySet()) {
                for (Packed packed : forest.get(node)) {
                    BigInteger size = sizeIn(packed);
                    if (size != null) {
                        size = node.symbol ? size.add(BigInteger.ONE) : size;
                        if (!sizes.containsKey(node) || size.compareTo(sizes.get(node)) < 0) {
                            sizes.put(node, size);
                            moved = true;
                        }
                    }
                }
            }
        }
        return root == null ? 0 : sizes.get(root).min(TREE_LIMIT).intValue();
    }

    private Packed best(Node node) {
        Packed best = null;
        for (Packed packed : forest.get(node)) {
            if (best == null || compare(node, packed, best) < 0) {
                best = packed;
            }
        }
        return best;
    }

    private int compare(Node node, Packed a, Packed b) {
        BigInteger inA = sizeIn(a);
        BigInteger inB = sizeIn(b);
        BigInteger self = node.symbol ? BigInteger.ONE : BigInteger.ZERO;
        int c = inA.add(self).min(TREE_LIMIT).compareTo(inB.add(self).min(TREE_LIMIT));
        c = c != 0 ? c : Integer.compare(a.alternate, b.alternate);
        c = c != 0 ? c : inA.min(TREE_LIMIT).compareTo(inB.min(TREE_LIMIT));
        return c != 0 ? c : Integer.compare(a.pivot, b.pivot);
    }

    /** The first 500 steps, after least(). */
    List<int[]> steps() {
        List<int[]> steps = new ArrayList<>();
        Deque<Node> open = new ArrayDeque<>();
        if (root != null) {
            open.push(root);
        }
        while (!open.isEmpty() && steps.size() < 500) {
            Node node = open.pop();
            Packed packed = best(node);
            if (node.symbol) {
                steps.add(new int[] {packed.alternate, node.i, node.k});
            }
            for (int part = packed.parts.size() - 1; part >= 0; part--) {
                open.push(packed.parts.get(part));
            }
        }
        return steps;
    }
}
