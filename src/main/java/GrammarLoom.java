import java.util.Arrays;

/**
 * A generator of sentences from a grammar: how short they can be, also with a rule that is wanted
 * in them, how many trees there are of a length, the tree with a given number among them, and the
 * number of a given tree.
 */
public final class GrammarLoom {
    public static final int NONE = -1;
    public static final int TOO_MANY = -2;

    private static final int NONTERMINALS = 8;
    private static final int SYMBOLS = 24;
    private static final int MOST_RULES = 24;
    private static final int MOST_RIGHT = 6;
    private static final int MOST_LENGTH = 16;
    private static final int MOST_ROW = 200;
    private static final long MOST_TREES = 1000000000000000000L;

    private final int[] text = new int[MOST_RIGHT];
    private int textSize;
    private final Grammar grammar;
    private final Lengths lengths;
    private final Leads leads;
    private final Counts all;
    private final Counts without;
    private final Weaver weaver;
    private final Listing listing;
    private boolean studied;

    public GrammarLoom() {
        grammar = new Grammar();
        lengths = new Lengths(grammar);
        leads = new Leads(grammar, lengths);
        all = new Counts(grammar, leads);
        without = new Counts(grammar, leads);
        Pile pile = new Pile();
        weaver = new Weaver(grammar, all, pile);
        listing = new Listing(grammar, all, pile);
    }

    public int symbol(int s) {
        if (s < 0 || s >= SYMBOLS || textSize >= MOST_RIGHT) {
            return NONE;
        }
        text[textSize] = s;
        textSize++;
        return textSize;
    }

    public int rule(int left) {
        int size = textSize;
        textSize = 0;
        if (!isNonterminal(left) || grammar.rules >= MOST_RULES) {
            return NONE;
        }
        studied = false;
        return grammar.add(left, text, size);
    }

    public boolean drop(int rule) {
        if (!grammar.has(rule)) {
            return false;
        }
        studied = false;
        grammar.remove(rule);
        return true;
    }

    public int count(int what) {
        switch (what) {
            case 0:
                return grammar.rules;
            case 1:
                return textSize;
            case 2:
                return listing.size;
            default:
                return NONE;
        }
    }

    public int about(int rule, int i) {
        if (!grammar.has(rule) || i < -1 || i >= grammar.sizeOf(rule)) {
            return NONE;
        }
        return i == -1 ? grammar.leftOf(rule) : grammar.symbolAt(rule, i);
    }

    public int shortest(int nonterminal) {
        if (!isNonterminal(nonterminal)) {
            return NONE;
        }
        study();
        return lengths.leastOf(nonterminal);
    }

    public int shortestWith(int rule) {
        if (!grammar.has(rule)) {
            return NONE;
        }
        study();
        return lengths.leastWith(rule);
    }

    public boolean circle() {
        study();
        return leads.isCircle();
    }

    public long trees(int nonterminal, int length) {
        if (!isNonterminal(nonterminal) || !isCounted(length)) {
            return NONE;
        }
        long trees = all.treesOf(nonterminal, length);
        return trees > MOST_TREES ? TOO_MANY : trees;
    }

    public long treesWith(int rule, int length) {
        if (!grammar.has(rule) || !isCounted(length)) {
            return NONE;
        }
        long trees = all.treesOf(0, length);
        if (trees > MOST_TREES) {
            return TOO_MANY;
        }
        without.leaveOut(rule);
        return trees - without.treesOf(0, length);
    }

    public int draw(int nonterminal, int length, long number) {
        // NONE and TOO_MANY lie below every number, so the second test refuses them too.
        if (number < 0 || number >= trees(nonterminal, length)) {
            return NONE;
        }
        return weaver.weave(nonterminal, length, number);
    }

    public int row(int i) {
        return weaver.ruleAt(i);
    }

    public int leaf(int i) {
        return weaver.leafAt(i);
    }

    public int list(int rule) {
        return listing.add(rule);
    }

    public long number(int nonterminal) {
        long number = NONE;
        if (isNonterminal(nonterminal) && !circle()) {
            number = listing.numberOf(nonterminal);
        }
        listing.size = 0;
        return number;
    }

    private static boolean isNonterminal(int symbol) {
        return symbol >= 0 && symbol < NONTERMINALS;
    }

    private boolean isCounted(int length) {
        // Not by circle(), so that no chain of calls is longer than the language allows.
        study();
        return length >= 0 && length <= MOST_LENGTH && !leads.isCircle();
    }

    /** What follows from the rules is found when it is first asked for after they have changed. */
    private void study() {
        if (studied) {
            return;
        }
        studied = true;
        lengths.find();
        leads.find();
        all.forget();
        without.forget();
    }

    /** The rules. */
    private static final class Grammar {
        private final int[] left = new int[MOST_RULES];
        private final int[] sizes = new int[MOST_RULES];
        private final int[] right = new int[MOST_RULES * MOST_RIGHT];
        private int rules;

        boolean has(int rule) {
            return rule >= 0 && rule < rules;
        }

        int leftOf(int rule) {
            return left[rule];
        }

        int sizeOf(int rule) {
            return sizes[rule];
        }

        int symbolAt(int rule, int i) {
            return right[rule * MOST_RIGHT + i];
        }

        int nonterminalsIn(int rule) {
            int found = 0;
            for (int i = 0; i < sizes[rule]; i++) {
                if (isNonterminal(symbolAt(rule, i))) {
                    found++;
                }
            }
            return found;
        }

        int add(int leftSide, int[] rightSide, int size) {
            left[rules] = leftSide;
            sizes[rules] = size;
            System.arraycopy(rightSide, 0, right, rules * MOST_RIGHT, size);
            rules++;
            return rules - 1;
        }

        void remove(int rule) {
            int next = rule + 1;
            int behind = rules - next;
            System.arraycopy(left, next, left, rule, behind);
            System.arraycopy(sizes, next, sizes, rule, behind);
            System.arraycopy(right, next * MOST_RIGHT, right, rule * MOST_RIGHT, behind * MOST_RIGHT);
            rules--;
        }
    }

    /** The least lengths of trees, and of what stands around a nonterminal in trees of nonterminal 0. */
    private static final class Lengths {
        private final Grammar grammar;
        private final int[] least = new int[NONTERMINALS];
        private final int[] around = new int[NONTERMINALS];

        Lengths(Grammar grammar) {
            this.grammar = grammar;
        }

        int leastOf(int nonterminal) {
            return least[nonterminal];
        }

        boolean isEmpty(int symbol) {
            return isNonterminal(symbol) && least[symbol] == 0;
        }

        int leastWith(int rule) {
            int inside = leastBut(rule, NONE);
            int outside = around[grammar.leftOf(rule)];
            return inside == NONE || outside == NONE ? NONE : inside + outside;
        }

        /**
         * A shortest tree needs no nonterminal twice on a way down from its top, and a round takes
         * every such way at least one step further: as many rounds as nonterminals reach them all.
         */
        void find() {
            Arrays.fill(least, NONE);
            for (int round = 0; round < NONTERMINALS; round++) {
                for (int rule = 0; rule < grammar.rules; rule++) {
                    lower(least, grammar.leftOf(rule), leastBut(rule, NONE));
                }
            }
            Arrays.fill(around, NONE);
            around[0] = 0;
            for (int round = 0; round < NONTERMINALS; round++) {
                for (int rule = 0; rule < grammar.rules; rule++) {
                    lowerAround(rule);
                }
            }
        }

        private void lowerAround(int rule) {
            int outside = around[grammar.leftOf(rule)];
            if (outside == NONE) {
                return;
            }
            for (int i = 0; i < grammar.sizeOf(rule); i++) {
                int symbol = grammar.symbolAt(rule, i);
                int beside = leastBut(rule, i);
                if (isNonterminal(symbol) && beside != NONE) {
                    lower(around, symbol, outside + beside);
                }
            }
        }

        private static void lower(int[] lengths, int nonterminal, int length) {
            int known = lengths[nonterminal];
            if (length != NONE && (known == NONE || length < known)) {
                lengths[nonterminal] = length;
            }
        }

        /** The least length of a right side without its symbol i; NONE if another has no tree. */
        private int leastBut(int rule, int skipped) {
            int sum = 0;
            for (int i = 0; i < grammar.sizeOf(rule); i++) {
                if (i == skipped) {
                    continue;
                }
                int symbol = grammar.symbolAt(rule, i);
                int length = isNonterminal(symbol) ? least[symbol] : 1;
                if (length == NONE) {
                    return NONE;
                }
                sum += length;
            }
            return sum;
        }
    }

    /** Which nonterminals lead to which, and an order in which each comes behind those it leads to. */
    private static final class Leads {
        private final Grammar grammar;
        private final Lengths lengths;
        private final int[] targets = new int[NONTERMINALS];
        private final int[] order = new int[NONTERMINALS];
        private int ordered;

        Leads(Grammar grammar, Lengths lengths) {
            this.grammar = grammar;
            this.lengths = lengths;
        }

        boolean isCircle() {
            return ordered < NONTERMINALS;
        }

        int inOrder(int place) {
            return order[place];
        }

        void find() {
            Arrays.fill(targets, 0);
            for (int rule = 0; rule < grammar.rules; rule++) {
                for (int i = 0; i < grammar.sizeOf(rule); i++) {
                    int symbol = grammar.symbolAt(rule, i);
                    if (isNonterminal(symbol) && isEmptyBut(rule, i)) {
                        targets[grammar.leftOf(rule)] |= 1 << symbol;
                    }
                }
            }
            putInOrder();
        }

        private boolean isEmptyBut(int rule, int skipped) {
            for (int i = 0; i < grammar.sizeOf(rule); i++) {
                if (i != skipped && !lengths.isEmpty(grammar.symbolAt(rule, i))) {
                    return false;
                }
            }
            return true;
        }

        /** Those on a circle, and those that lead to one, never get a place. */
        private void putInOrder() {
            ordered = 0;
            int placed = 0;
            for (int round = 0; round < NONTERMINALS; round++) {
                for (int nonterminal = 0; nonterminal < NONTERMINALS; nonterminal++) {
                    boolean waits = (placed & 1 << nonterminal) == 0;
                    if (waits && (targets[nonterminal] & ~placed) == 0) {
                        placed |= 1 << nonterminal;
                        order[ordered] = nonterminal;
                        ordered++;
                    }
                }
            }
        }
    }

    /**
     * How many trees there are of a length, all or those without one rule; only for a grammar
     * without a circle. Every count above MOST_TREES is held as MOST_TREES + 1.
     */
    private static final class Counts {
        private static final int WIDTH = MOST_LENGTH + 1;

        private final Grammar grammar;
        private final Leads leads;
        private final long[] trees = new long[NONTERMINALS * WIDTH];
        private final long[] endings = new long[MOST_RULES * (MOST_RIGHT + 1) * WIDTH];
        private int leftOut = NONE;
        private int counted;

        Counts(Grammar grammar, Leads leads) {
            this.grammar = grammar;
            this.leads = leads;
        }

        void forget() {
            counted = 0;
        }

        void leaveOut(int rule) {
            if (leftOut != rule) {
                leftOut = rule;
                forget();
            }
        }

        long treesOf(int nonterminal, int length) {
            for (int next = counted; next <= length; next++) {
                countLength(next);
                counted = next + 1;
            }
            return trees[nonterminal * WIDTH + length];
        }

        /** How many ways the symbols of a rule from symbol i on have to yield a counted length. */
        long endingsOf(int rule, int i, int length) {
            return endings[endingsAt(rule, i) + length];
        }

        /** How many of those ways there are in which symbol i yields the part of the length. */
        long endingsWith(int rule, int i, int part, int length) {
            int symbol = grammar.symbolAt(rule, i);
            long firsts = part == 1 ? 1 : 0;
            if (isNonterminal(symbol)) {
                firsts = trees[symbol * WIDTH + part];
            }
            return times(firsts, endings[endingsAt(rule, i + 1) + length - part]);
        }

        /**
         * While the nonterminals are counted, an ending may still lack trees of this length; but
         * what stands before it is then not empty, so its rule's own count does not need it yet.
         * The endings are filled anew when all nonterminals have been counted.
         */
        private void countLength(int length) {
            for (int nonterminal = 0; nonterminal < NONTERMINALS; nonterminal++) {
                trees[nonterminal * WIDTH + length] = 0;
            }
            for (int place = 0; place < NONTERMINALS; place++) {
                int nonterminal = leads.inOrder(place);
                for (int rule = 0; rule < grammar.rules; rule++) {
                    if (rule != leftOut && grammar.leftOf(rule) == nonterminal) {
                        fillEndings(rule, length);
                        addTrees(nonterminal, length, endingsOf(rule, 0, length));
                    }
                }
            }
            for (int rule = 0; rule < grammar.rules; rule++) {
                if (rule != leftOut) {
                    fillEndings(rule, length);
                }
            }
        }

        private void addTrees(int nonterminal, int length, long more) {
            int place = nonterminal * WIDTH + length;
            trees[place] = plus(trees[place], more);
        }

        private void fillEndings(int rule, int length) {
            int size = grammar.sizeOf(rule);
            endings[endingsAt(rule, size) + length] = length == 0 ? 1 : 0;
            for (int i = size - 1; i >= 0; i--) {
                int symbol = grammar.symbolAt(rule, i);
                int behind = endingsAt(rule, i + 1) + length;
                long sum = 0;
                if (isNonterminal(symbol)) {
                    sum = pairs(symbol * WIDTH, behind, length);
                } else if (length > 0) {
                    sum = endings[behind - 1];
                }
                endings[endingsAt(rule, i) + length] = sum;
            }
        }

        /** The trees from a place on, those of each length with the endings that take the rest. */
        private long pairs(int treesPlace, int endingsPlace, int length) {
            long sum = 0;
            for (int part = 0; part <= length; part++) {
                long firsts = trees[treesPlace + part];
                // Most counts are 0, and this is the innermost loop of all.
                if (firsts != 0) {
                    sum = plus(sum, times(firsts, endings[endingsPlace - part]));
                }
            }
            return sum;
        }

        private static int endingsAt(int rule, int i) {
            return (rule * (MOST_RIGHT + 1) + i) * WIDTH;
        }

        private static long plus(long a, long b) {
            return Math.min(a + b, MOST_TREES + 1);
        }

        private static long times(long a, long b) {
            if (b == 0) {
                return 0;
            }
            return a > MOST_TREES / b ? MOST_TREES + 1 : a * b;
        }
    }

    /** Symbols with the length and the number of their trees, the one on top taken first. */
    private static final class Pile {
        // A nonterminal that waits will be a rule of the row, a terminal one of the yield.
        private static final int MOST = MOST_ROW + MOST_LENGTH;

        private final int[] symbols = new int[MOST];
        private final int[] lengths = new int[MOST];
        private final long[] numbers = new long[MOST];
        private int size;

        void put(int place, int symbol, int length, long number) {
            if (place >= 0 && place < MOST) {
                symbols[place] = symbol;
                lengths[place] = length;
                numbers[place] = number;
            }
        }
    }

    /** A tree as it can be asked for: its row and its yield. */
    private static final class Drawing {
        private final int[] rules = new int[MOST_ROW];
        private final int[] leaves = new int[MOST_LENGTH];
        private int ruleCount;
        private int leafCount;

        void clear() {
            ruleCount = 0;
            leafCount = 0;
        }

        void addRule(int rule) {
            if (ruleCount < MOST_ROW) {
                rules[ruleCount] = rule;
                ruleCount++;
            }
        }

        void addLeaf(int terminal) {
            if (leafCount < MOST_LENGTH) {
                leaves[leafCount] = terminal;
                leafCount++;
            }
        }
    }

    /** Draws the tree with a number. */
    private static final class Weaver {
        private final Grammar grammar;
        private final Counts counts;
        private final Pile pile;
        private Drawing latest = new Drawing();
        private Drawing next = new Drawing();
        private int waiting;

        Weaver(Grammar grammar, Counts counts, Pile pile) {
            this.grammar = grammar;
            this.counts = counts;
            this.pile = pile;
        }

        int ruleAt(int i) {
            return i >= 0 && i < latest.ruleCount ? latest.rules[i] : NONE;
        }

        int leafAt(int i) {
            return i >= 0 && i < latest.leafCount ? latest.leaves[i] : NONE;
        }

        int weave(int nonterminal, int length, long number) {
            next.clear();
            pile.put(0, nonterminal, length, number);
            pile.size = 1;
            waiting = 1;
            // Every step adds a rule or a leaf, and the pile holds no more than may still come.
            for (int step = 0; step < Pile.MOST && pile.size > 0; step++) {
                pile.size--;
                int symbol = pile.symbols[pile.size];
                if (!isNonterminal(symbol)) {
                    next.addLeaf(symbol);
                } else if (!unfold(symbol, pile.lengths[pile.size], pile.numbers[pile.size])) {
                    return TOO_MANY;
                }
            }
            Drawing former = latest;
            latest = next;
            next = former;
            return latest.ruleCount;
        }

        /** False if the row would become too long. */
        private boolean unfold(int nonterminal, int length, long number) {
            long numberLeft = number;
            for (int rule = 0; rule < grammar.rules; rule++) {
                if (grammar.leftOf(rule) == nonterminal) {
                    long trees = counts.endingsOf(rule, 0, length);
                    if (numberLeft < trees) {
                        return unfoldRule(rule, length, numberLeft);
                    }
                    numberLeft -= trees;
                }
            }
            return false;
        }

        private boolean unfoldRule(int rule, int length, long number) {
            waiting += grammar.nonterminalsIn(rule) - 1;
            // Each one that waits is a rule more at least, so a row too long shows before its end.
            if (next.ruleCount + 1 + waiting > MOST_ROW) {
                return false;
            }
            next.addRule(rule);
            int size = grammar.sizeOf(rule);
            int lengthLeft = length;
            long numberLeft = number;
            for (int i = 0; i < size; i++) {
                int part = 0;
                long ways = counts.endingsWith(rule, i, part, lengthLeft);
                while (part < lengthLeft && numberLeft >= ways) {
                    numberLeft -= ways;
                    part++;
                    ways = counts.endingsWith(rule, i, part, lengthLeft);
                }
                lengthLeft -= part;
                long behind = Math.max(1, counts.endingsOf(rule, i + 1, lengthLeft));
                // The first symbol lies on top.
                pile.put(pile.size + size - 1 - i, grammar.symbolAt(rule, i), part, numberLeft / behind);
                numberLeft %= behind;
            }
            pile.size += size;
            return true;
        }
    }

    /** The list, and the number of the tree whose row it is. */
    private static final class Listing {
        private final Grammar grammar;
        private final Counts counts;
        private final Pile pile;
        private final int[] rules = new int[MOST_ROW];
        private int size;

        Listing(Grammar grammar, Counts counts, Pile pile) {
            this.grammar = grammar;
            this.counts = counts;
            this.pile = pile;
        }

        int add(int rule) {
            if (size >= MOST_ROW) {
                return NONE;
            }
            rules[size] = rule;
            size++;
            return size;
        }

        /** Read from its end, a row has the trees of each rule ready before the rule itself. */
        long numberOf(int nonterminal) {
            int length = terminals();
            if (length == NONE || length > MOST_LENGTH
                    || counts.treesOf(nonterminal, length) > MOST_TREES) {
                return NONE;
            }
            pile.size = 0;
            for (int i = size - 1; i >= 0; i--) {
                if (!fold(rules[i])) {
                    return NONE;
                }
            }
            return pile.size == 1 && pile.symbols[0] == nonterminal ? pile.numbers[0] : NONE;
        }

        /** How many terminals the rules have together: the length, if there is a tree. */
        private int terminals() {
            int sum = 0;
            for (int i = 0; i < size; i++) {
                if (!grammar.has(rules[i])) {
                    return NONE;
                }
                sum += grammar.sizeOf(rules[i]) - grammar.nonterminalsIn(rules[i]);
            }
            return sum;
        }

        /** Puts a tree of the rule in the place of its trees; false if these are not on top. */
        private boolean fold(int rule) {
            int length = 0;
            int place = pile.size;
            for (int i = 0; i < grammar.sizeOf(rule); i++) {
                int symbol = grammar.symbolAt(rule, i);
                if (!isNonterminal(symbol)) {
                    length++;
                    continue;
                }
                place--;
                if (place < 0 || pile.symbols[place] != symbol) {
                    return false;
                }
                length += pile.lengths[place];
            }
            long number = treesBefore(rule, length) + numberInRule(rule, length);
            pile.put(place, grammar.leftOf(rule), length, number);
            pile.size = place + 1;
            return true;
        }

        private long treesBefore(int rule, int length) {
            long sum = 0;
            for (int earlier = 0; earlier < rule; earlier++) {
                if (grammar.leftOf(earlier) == grammar.leftOf(rule)) {
                    sum += counts.endingsOf(earlier, 0, length);
                }
            }
            return sum;
        }

        private long numberInRule(int rule, int length) {
            long sum = 0;
            int lengthLeft = length;
            int place = pile.size;
            for (int i = 0; i < grammar.sizeOf(rule); i++) {
                int part = 1;
                long number = 0;
                if (isNonterminal(grammar.symbolAt(rule, i))) {
                    place--;
                    part = pile.lengths[place];
                    number = pile.numbers[place];
                }
                for (int less = 0; less < part; less++) {
                    sum += counts.endingsWith(rule, i, less, lengthLeft);
                }
                lengthLeft -= part;
                sum += number * counts.endingsOf(rule, i + 1, lengthLeft);
            }
            return sum;
        }
    }
}
