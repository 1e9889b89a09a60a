import java.math.BigInteger;
import java.util.ArrayList;
import java.util.HashMap;
import java.util.List;
import java.util.Map;

/** The document's terms, word by word and without care for time, on a grammar of its own. */
final class PlainModel {
    static final BigInteger MOST = BigInteger.TEN.pow(18);
    /** Lengths up to this one are told; the least lengths above it are not known here. */
    static final int LONGEST = 60;
    static final int UNKNOWN = Integer.MAX_VALUE;

    private static final long ALL_LENGTHS = (1L << LONGEST + 1) - 1;

    /** A tree: its parts are null where the right side has a terminal. */
    static final class Tree {
        final int rule;
        final List<Tree> parts;
        final int length;
        final int rules;

        Tree(int rule, List<Tree> parts) {
            this.rule = rule;
            this.parts = new ArrayList<>(parts);
            int terminals = 0;
            int below = 0;
            for (Tree part : parts) {
                terminals += lengthOf(part);
                below += part == null ? 0 : part.rules;
            }
            length = terminals;
            rules = 1 + below;
        }

        static int lengthOf(Tree part) {
            return part == null ? 1 : part.length;
        }

        List<Integer> row() {
            List<Integer> row = new ArrayList<>();
            row.add(rule);
            for (Tree part : parts) {
                if (part != null) {
                    row.addAll(part.row());
                }
            }
            return row;
        }
    }

    /** Rules as their left side and then their right side. */
    final List<int[]> rules = new ArrayList<>();

    private final Map<String, BigInteger> known = new HashMap<>();
    private final Map<String, List<Tree>> listed = new HashMap<>();
    private long[] lengths;
    private int leftOut = -1;
    private int rulesLeft;

    void changed() {
        known.clear();
        listed.clear();
        lengths = null;
    }

    static boolean isNonterminal(int symbol) {
        return symbol >= 0 && symbol < 8;
    }

    // ---- lengths: sets of them, as bits

    private static long sums(long a, long b) {
        long sums = 0;
        for (int i = 0; i <= LONGEST; i++) {
            if ((a >> i & 1) != 0) {
                sums |= b << i & ALL_LENGTHS;
            }
        }
        return sums;
    }

    private static int least(long set) {
        return set == 0 ? UNKNOWN : Long.numberOfTrailingZeros(set);
    }

    private long lengthsOf(int symbol) {
        return isNonterminal(symbol) ? lengths()[symbol] : 2;
    }

    private long[] lengths() {
        if (lengths == null) {
            lengths = new long[8];
            boolean more = true;
            while (more) {
                more = false;
                for (int[] rule : rules) {
                    long set = 1;
                    for (int i = 1; i < rule.length; i++) {
                        set = sums(set, lengthsOf(rule[i]));
                    }
                    more |= (set & ~lengths[rule[0]]) != 0;
                    lengths[rule[0]] |= set;
                }
            }
        }
        return lengths;
    }

    int shortest(int nonterminal) {
        return least(lengths()[nonterminal]);
    }

    int shortestWith(int wanted) {
        long[] with = new long[8];
        boolean more = true;
        while (more) {
            more = false;
            for (int r = 0; r < rules.size(); r++) {
                int[] rule = rules.get(r);
                long any = 1;
                long used = r == wanted ? 1 : 0;
                for (int i = 1; i < rule.length; i++) {
                    long here = lengthsOf(rule[i]);
                    used = sums(used, here) | (isNonterminal(rule[i]) ? sums(any, with[rule[i]]) : 0);
                    any = sums(any, here);
                }
                more |= (used & ~with[rule[0]]) != 0;
                with[rule[0]] |= used;
            }
        }
        return least(with[0]);
    }

    // ---- circles

    private boolean isEmpty(int symbol) {
        return isNonterminal(symbol) && (lengths()[symbol] & 1) != 0;
    }

    boolean circle() {
        boolean[][] leads = new boolean[8][8];
        for (int[] rule : rules) {
            for (int i = 1; i < rule.length; i++) {
                boolean othersEmpty = true;
                for (int j = 1; j < rule.length; j++) {
                    othersEmpty &= j == i || isEmpty(rule[j]);
                }
                if (isNonterminal(rule[i]) && othersEmpty) {
                    leads[rule[0]][rule[i]] = true;
                }
            }
        }
        for (int k = 0; k < 8; k++) {
            for (int i = 0; i < 8; i++) {
                for (int j = 0; j < 8; j++) {
                    leads[i][j] |= leads[i][k] && leads[k][j];
                }
            }
        }
        boolean found = false;
        for (int i = 0; i < 8; i++) {
            found |= leads[i][i];
        }
        return found;
    }

    // ---- counts, only without a circle

    BigInteger trees(int nonterminal, int length) {
        return count(nonterminal, length);
    }

    BigInteger treesWith(int rule, int length) {
        BigInteger all = trees(0, length);
        Map<String, BigInteger> kept = new HashMap<>(known);
        known.clear();
        leftOut = rule;
        BigInteger without = count(0, length);
        leftOut = -1;
        known.clear();
        known.putAll(kept);
        return all.subtract(without);
    }

    private BigInteger count(int symbol, int length) {
        if (!isNonterminal(symbol)) {
            return length == 1 ? BigInteger.ONE : BigInteger.ZERO;
        }
        if (length < shortest(symbol)) {
            return BigInteger.ZERO;
        }
        String key = symbol + " " + length;
        BigInteger sum = known.get(key);
        if (sum == null) {
            sum = BigInteger.ZERO;
            for (int r = 0; r < rules.size(); r++) {
                if (r != leftOut && rules.get(r)[0] == symbol) {
                    sum = sum.add(countFrom(r, 1, length));
                }
            }
            known.put(key, sum);
        }
        return sum;
    }

    private BigInteger countFrom(int r, int i, int length) {
        int[] rule = rules.get(r);
        if (i == rule.length) {
            return length == 0 ? BigInteger.ONE : BigInteger.ZERO;
        }
        String key = r + " " + i + " " + length;
        BigInteger sum = known.get(key);
        if (sum == null) {
            sum = BigInteger.ZERO;
            for (int part = 0; part <= longestPart(rule, i, length); part++) {
                sum = sum.add(countWith(r, i, part, length));
            }
            known.put(key, sum);
        }
        return sum;
    }

    /** Below 0 if there is none; so no nonterminal is counted that waits for this very count. */
    private int longestPart(int[] rule, int i, int length) {
        int behind = leastFrom(rule, i + 1);
        return behind == UNKNOWN || least(lengthsOf(rule[i])) == UNKNOWN ? -1 : length - behind;
    }

    /** The ways in which symbol i of the rule yields the part of the length. */
    private BigInteger countWith(int r, int i, int part, int length) {
        BigInteger firsts = count(rules.get(r)[i], part);
        return firsts.signum() == 0 ? firsts : firsts.multiply(countFrom(r, i + 1, length - part));
    }

    private int leastFrom(int[] rule, int i) {
        int sum = 0;
        for (int j = i; j < rule.length; j++) {
            int least = least(lengthsOf(rule[j]));
            if (least == UNKNOWN) {
                return UNKNOWN;
            }
            sum += least;
        }
        return sum;
    }

    // ---- trees, only without a circle and where there are few

    List<Tree> inOrder(int nonterminal, int length) {
        List<Tree> trees = new ArrayList<>(allTrees(nonterminal, length));
        trees.sort(this::compare);
        return trees;
    }

    private List<Tree> allTrees(int nonterminal, int length) {
        String key = nonterminal + " " + length;
        List<Tree> trees = listed.get(key);
        if (trees == null) {
            trees = new ArrayList<>();
            for (int r = rules.size() - 1; r >= 0; r--) {
                if (rules.get(r)[0] == nonterminal) {
                    addTrees(trees, r, new ArrayList<>(), length);
                }
            }
            listed.put(key, trees);
        }
        return trees;
    }

    private void addTrees(List<Tree> trees, int r, List<Tree> parts, int length) {
        int[] rule = rules.get(r);
        int i = parts.size() + 1;
        if (i == rule.length) {
            if (length == 0) {
                trees.add(new Tree(r, parts));
            }
            return;
        }
        for (int part = 0; part <= longestPart(rule, i, length); part++) {
            if (countWith(r, i, part, length).signum() == 0) {
                continue;
            }
            List<Tree> choices = new ArrayList<>();
            if (isNonterminal(rule[i])) {
                choices.addAll(allTrees(rule[i], part));
            } else {
                choices.add(null);
            }
            for (Tree choice : choices) {
                parts.add(choice);
                addTrees(trees, r, parts, length - part);
                parts.remove(parts.size() - 1);
            }
        }
    }

    /** THE ORDER. */
    int compare(Tree a, Tree b) {
        if (a == b) {
            return 0;
        }
        if (a.rule != b.rule) {
            return Integer.compare(a.rule, b.rule);
        }
        for (int i = 0; i < a.parts.size(); i++) {
            Tree one = a.parts.get(i);
            Tree other = b.parts.get(i);
            int found = Integer.compare(Tree.lengthOf(one), Tree.lengthOf(other));
            if (found == 0 && one != null) {
                found = compare(one, other);
            }
            if (found != 0) {
                return found;
            }
        }
        return 0;
    }

    // ---- the same by counting what comes before, where there are many

    /** The tree with a number; null if it has more than 200 rules. */
    Tree treeAt(int nonterminal, int length, long number) {
        rulesLeft = 200;
        return treeAt(nonterminal, length, BigInteger.valueOf(number));
    }

    private Tree treeAt(int nonterminal, int length, BigInteger number) {
        rulesLeft--;
        BigInteger left = number;
        for (int r = 0; r < rules.size() && rulesLeft >= 0; r++) {
            if (rules.get(r)[0] == nonterminal) {
                BigInteger trees = countFrom(r, 1, length);
                if (left.compareTo(trees) < 0) {
                    List<Tree> parts = new ArrayList<>();
                    return addParts(parts, r, length, left) ? new Tree(r, parts) : null;
                }
                left = left.subtract(trees);
            }
        }
        return null;
    }

    private boolean addParts(List<Tree> parts, int r, int length, BigInteger number) {
        int[] rule = rules.get(r);
        BigInteger left = number;
        int rest = length;
        for (int i = 1; i < rule.length; i++) {
            int part = 0;
            while (left.compareTo(countWith(r, i, part, rest)) >= 0) {
                left = left.subtract(countWith(r, i, part, rest));
                part++;
            }
            rest -= part;
            BigInteger[] numbers = left.divideAndRemainder(countFrom(r, i + 1, rest));
            Tree tree = isNonterminal(rule[i]) ? treeAt(rule[i], part, numbers[0]) : null;
            if (tree == null && isNonterminal(rule[i])) {
                return false;
            }
            parts.add(tree);
            left = numbers[1];
        }
        return true;
    }

    /** How many trees of its nonterminal and length come before a tree. */
    long numberOf(Tree tree) {
        return before(tree).longValueExact();
    }

    private BigInteger before(Tree tree) {
        int[] rule = rules.get(tree.rule);
        BigInteger sum = BigInteger.ZERO;
        for (int r = 0; r < tree.rule; r++) {
            if (rules.get(r)[0] == rule[0]) {
                sum = sum.add(countFrom(r, 1, tree.length));
            }
        }
        int rest = tree.length;
        for (int i = 1; i < rule.length; i++) {
            Tree part = tree.parts.get(i - 1);
            for (int less = 0; less < Tree.lengthOf(part); less++) {
                sum = sum.add(countWith(tree.rule, i, less, rest));
            }
            rest -= Tree.lengthOf(part);
            if (part != null) {
                sum = sum.add(before(part).multiply(countFrom(tree.rule, i + 1, rest)));
            }
        }
        return sum;
    }

    // ---- rows and yields

    List<Integer> yieldOf(Tree tree) {
        List<Integer> yield = new ArrayList<>();
        int[] rule = rules.get(tree.rule);
        for (int i = 1; i < rule.length; i++) {
            Tree part = tree.parts.get(i - 1);
            if (part == null) {
                yield.add(rule[i]);
            } else {
                yield.addAll(yieldOf(part));
            }
        }
        return yield;
    }

    /** The tree of a nonterminal with a row; null if it is none. */
    Tree read(int nonterminal, List<Integer> row) {
        int[] at = {0};
        Tree tree = readFrom(nonterminal, row, at);
        return at[0] == row.size() ? tree : null;
    }

    private Tree readFrom(int nonterminal, List<Integer> row, int[] at) {
        if (at[0] >= row.size()) {
            return null;
        }
        int r = row.get(at[0]);
        at[0]++;
        if (r < 0 || r >= rules.size() || rules.get(r)[0] != nonterminal) {
            return null;
        }
        List<Tree> parts = new ArrayList<>();
        for (int i = 1; i < rules.get(r).length; i++) {
            Tree part = null;
            if (isNonterminal(rules.get(r)[i])) {
                part = readFrom(rules.get(r)[i], row, at);
                if (part == null) {
                    return null;
                }
            }
            parts.add(part);
        }
        return new Tree(r, parts);
    }
}
