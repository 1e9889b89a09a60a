import java.util.Arrays;

/** The words before promise 1: what it is, the calls of an object, the terms, the constants. */
public final class TermsTest {
    public static void main(String[] args) {
        run();
        Check.end();
    }

    static void run() {
        whatItIs();
        calls512();
        lastCalls();
        nonterminals();
        terminals();
        rulesAreNumbered();
        rightSides();
        trees();
        yields();
        lengths();
        rows();
        empty();
        leads();
        leadsNot();
        circles();
        orderByRules();
        orderByFirstLength();
        orderByFirstTree();
        orderByFurtherSymbols();
        numbersFrom0();
        none();
        tooMany();
    }

    /** A subject, a verb, 11, and an object; each has an article, 10, adjectives, 9, and a noun, 8. */
    private static void whatItIs() {
        Check.says(0, "A generator of sentences from a grammar: how short they can be, also with a rule that "
                + "is wanted in them, how many trees there are of a length, the tree with a given number among "
                + "them, and the number of a given tree.");
        Loom x = new Loom();
        x.add(0, 1, 11, 1);
        x.add(1, 10, 2);
        x.add(2, 8);
        x.add(2, 9, 2);
        Check.due("how short sentences can be", 5, x.shortest(0));
        Check.due("with the rule that is wanted", 6, x.shortestWith(3));
        Check.due("trees of a length", 2, x.trees(0, 6));
        Check.due("trees of a length with the rule", 2, x.treesWith(3, 6));
        Check.dueTree(x, 0, 6, 1, 0, 1, 3, 2, 1, 2);
        Check.dueYield("the sentence", x, 10, 9, 8, 11, 10, 8);
        Check.due("the number of the tree", 1, x.numberOf(0, 0, 1, 3, 2, 1, 2));
    }

    private static void calls512() {
        Check.says(0, "An object is used for at most 512 calls after it has been made; what later calls "
                + "answer is free.");
        Loom x = Grammars.pairs();
        for (int i = 0; x.calls() < 496; i++) {
            x.add(1 + i % 7, 8);
            x.drop(3);
        }
        Check.due("late: trees(0, 3)", 16, x.trees(0, 3));
        Check.due("late: draw(0, 3, 15)", 5, x.draw(0, 3, 15));
        Check.due("late: row(4)", 2, x.row(4));
        for (int i = 0; x.calls() < 511; i++) {
            Check.due("late: list", i + 1, x.list(0));
        }
        Check.due("the 512th call", Check.NONE, x.number(0));
        Check.due("calls", 512, x.calls());
    }

    private static void lastCalls() {
        Check.says(0, "at most 512 calls");
        Loom lists = new Loom();
        Loom rules = new Loom();
        Loom rows = new Loom();
        lists.rule(0);
        rows.rule(0);
        rows.draw(0, 0, 0);
        for (int i = 0; i < 255; i++) {
            Check.due("list, again and again", 1, lists.list(0));
            Check.due("number, again and again", 0, lists.number(0));
            Check.due("rule, again and again", 0, rules.rule(i % 8));
            Check.due("drop, again and again", true, rules.drop(0));
            Check.due("row, again and again", 0, rows.row(0));
            Check.due("leaf, again and again", Check.NONE, rows.leaf(0));
        }
        Check.due("the 512th call, of list", 1, lists.list(0));
        rules.add(0);
        Check.due("the 512th call, of trees", 1, rules.trees(0, 0));
        Check.due("calls of list and number", 512, lists.calls());
        Check.due("calls of rule and drop", 512, rules.calls());
        Check.due("calls of row and leaf", 512, rows.calls());
    }

    private static void nonterminals() {
        Check.says(0, "SYMBOLS are 0 .. 7, NONTERMINALS,");
        for (int n = 0; n < 8; n++) {
            Loom x = new Loom();
            Check.due("symbol(" + n + ")", 1, x.symbol(n));
            Check.due("rule(" + n + ")", 0, x.rule(n));
            Check.due("it stands for itself", true, x.circle());
            x.drop(0);
            int other = (n + 1) % 8;
            x.add(other, n);
            Check.due(n + " is no terminal", Check.NONE, x.shortest(other));
            x.add(n, 8, 8);
            Check.due(n + " has a tree", 2, x.shortest(other));
        }
    }

    private static void terminals() {
        Check.says(0, "and 8 .. 23, TERMINALS.");
        for (int t = 8; t < 24; t++) {
            Loom x = new Loom();
            Check.due("rule(" + t + ")", Check.NONE, x.rule(t));
            Check.due("symbol(" + t + ")", 1, x.symbol(t));
            x.rule(0);
            Check.due("its length", 1, x.shortest(0));
            Check.due("a tree of one rule", 1, x.draw(0, 1, 0));
            Check.dueYield("of terminal " + t, x, t);
        }
    }

    private static void rulesAreNumbered() {
        Check.says(0, "RULES are numbered 0, 1, .., 23 at most;");
        Loom x = new Loom();
        for (int i = 0; i < 24; i++) {
            Check.due("rule " + i, i, x.add(i % 8, i));
        }
        Check.due("no rule 24", Check.NONE, x.add(0, 8));
        for (int i = 0; i < 24; i++) {
            Check.dueRule("of 24", x, i, i % 8, i);
        }
        Check.due("no rule 24", Check.NONE, x.about(24, -1));
    }

    private static void rightSides() {
        Check.says(0, "each has a left side, a nonterminal, and a right side of 0 to 6 symbols.");
        int[] symbols = {0, 7, 8, 23, 7, 15};
        for (int size = 0; size <= 6; size++) {
            Loom x = new Loom();
            int[] right = Arrays.copyOf(symbols, size);
            x.add(7 - size, right);
            Check.dueRule("of size " + size, x, 0, 7 - size, right);
        }
    }

    private static void trees() {
        Check.says(0, "A TREE of a nonterminal is a rule of it and, for each nonterminal of its right "
                + "side, in order, a tree of that.");
        Loom x = new Loom();
        x.add(0, 1, 8, 1);
        x.add(1, 9);
        x.add(1, 10);
        x.add(2, 0, 3);
        Check.due("a rule without nonterminals", 0, x.numberOf(1, 1));
        Check.due("two trees of 1, each for itself", 4, x.trees(0, 3));
        Check.due("in order", 1, x.numberOf(0, 0, 1, 2));
        Check.due("in order", 2, x.numberOf(0, 0, 2, 1));
        Check.due("one tree is missing", Check.NONE, x.numberOf(0, 0, 1));
        Check.due("a rule of another nonterminal", Check.NONE, x.numberOf(0, 0, 1, 0));
        Check.due("no tree without one for each", 0, x.trees(2, 3));
        Check.due("no tree without one for each", Check.NONE, x.shortest(2));
    }

    private static void yields() {
        Check.says(0, "Its YIELD are the terminals of it from left to right, those of the right side and "
                + "those of the trees in their places;");
        Loom x = new Loom();
        x.add(0, 8, 1, 9, 2, 10);
        x.add(1, 11, 2, 12);
        x.add(2, 13);
        x.add(3, 4, 4);
        x.add(4);
        x.draw(0, 7, 0);
        Check.dueYield("terminals and trees", x, 8, 11, 13, 12, 9, 13, 10);
        x.draw(3, 0, 0);
        Check.dueYield("no terminals", x);
    }

    private static void lengths() {
        Check.says(0, "its LENGTH is how many they are.");
        Loom x = new Loom();
        x.add(0, 8, 1, 8, 1);
        x.add(1, 8, 8);
        x.add(2, 3);
        x.add(3);
        for (int length = 0; length <= 16; length++) {
            Check.due("trees(0, " + length + ")", length == 6 ? 1 : 0, x.trees(0, length));
            Check.due("trees(2, " + length + ")", length == 0 ? 1 : 0, x.trees(2, length));
        }
        Check.due("shortest(0)", 6, x.shortest(0));
        Check.due("shortest(2)", 0, x.shortest(2));
    }

    private static void rows() {
        Check.says(0, "Its ROW are the numbers of the rules: its own one first, then the rows of its "
                + "trees, in order.");
        Loom x = new Loom();
        x.add(3, 10);
        x.add(2, 8, 3);
        x.add(1, 3, 2, 3);
        x.add(0, 1, 9, 2);
        Check.dueTree(x, 0, 7, 0, 3, 2, 0, 1, 0, 0, 1, 0);
        Check.due("told in order", 0, x.numberOf(0, 3, 2, 0, 1, 0, 0, 1, 0));
        Check.due("its own one last", Check.NONE, x.numberOf(0, 2, 0, 1, 0, 0, 1, 0, 3));
        Check.due("the trees the other way round", Check.NONE, x.numberOf(0, 3, 1, 0, 2, 0, 1, 0, 0));
        Check.dueTree(x, 3, 1, 0, 0);
    }

    /** Nonterminal 0 is told to be empty by 7 -> 7 0 being a circle. */
    private static void dueEmpty(String why, boolean want, int[]... rules) {
        Loom x = new Loom();
        for (int[] rule : rules) {
            x.add(rule[0], Arrays.copyOfRange(rule, 1, rule.length));
        }
        Check.due("of length 0: " + why, want, x.shortest(0) == 0);
        x.add(7, 7, 0);
        Check.due("beside another one: " + why, want, x.circle());
    }

    private static void empty() {
        Check.says(0, "A nonterminal is EMPTY if it has a tree of length 0.");
        dueEmpty("a rule without symbols", true, new int[] {0});
        dueEmpty("and a longer one before it", true, new int[] {0, 8}, new int[] {0});
        dueEmpty("an empty one", true, new int[] {0, 1}, new int[] {1});
        dueEmpty("six empty ones", true, new int[] {0, 1, 2, 1, 2, 1, 2}, new int[] {1, 2}, new int[] {2});
        dueEmpty("a terminal", false, new int[] {0, 8});
        dueEmpty("a terminal behind an empty one", false, new int[] {0, 1, 8}, new int[] {1});
        dueEmpty("one of two is not", false, new int[] {0, 1, 2}, new int[] {1}, new int[] {2, 8});
        dueEmpty("one of two has no tree", false, new int[] {0, 1, 2}, new int[] {1});
        dueEmpty("no rules", false);
        dueEmpty("only with itself", false, new int[] {0, 0, 0});
        dueEmpty("seven steps down", true, new int[] {0, 1}, new int[] {1, 2}, new int[] {2, 3},
                new int[] {3, 4}, new int[] {4, 5}, new int[] {5, 6}, new int[] {6});
    }

    /** Nonterminal 0 leads to 1 if there is a circle as soon as 1 leads to 0. */
    private static void dueLeads(String why, boolean want, int[]... rules) {
        Loom x = new Loom();
        x.add(2);
        x.add(3, 8);
        for (int[] rule : rules) {
            x.add(rule[0], Arrays.copyOfRange(rule, 1, rule.length));
        }
        Check.due("no circle yet: " + why, false, x.circle());
        x.add(1, 0);
        Check.due("leads: " + why, want, x.circle());
    }

    private static void leads() {
        Check.says(0, "It LEADS to another one (or itself) if it has a rule with that one in its right "
                + "side, in a place where all other symbols of the right side are empty nonterminals.");
        dueLeads("no other symbols", true, new int[] {0, 1});
        dueLeads("an empty one before it", true, new int[] {0, 2, 1});
        dueLeads("an empty one behind it", true, new int[] {0, 1, 2});
        dueLeads("five empty ones", true, new int[] {0, 2, 2, 2, 1, 2, 2});
        dueLeads("five empty ones behind it", true, new int[] {0, 1, 2, 2, 2, 2, 2});
        dueLeads("five empty ones before it", true, new int[] {0, 2, 2, 2, 2, 2, 1});
        dueLeads("one that is empty itself", true, new int[] {0, 1}, new int[] {1});
        dueLeads("twice, and it is empty", true, new int[] {0, 1, 1}, new int[] {1});
        dueLeads("by the second of its rules", true, new int[] {0, 8}, new int[] {0, 2, 1});
        dueLeads("one without a tree", true, new int[] {0, 1});
        Loom x = new Loom();
        x.add(5, 5);
        Check.due("itself", true, x.circle());
        Loom y = new Loom();
        y.add(5, 5, 5);
        Check.due("twice itself, without a tree", false, y.circle());
        y.add(5, 8);
        Check.due("twice itself, not empty", false, y.circle());
        y.add(5);
        Check.due("twice itself, empty", true, y.circle());
    }

    private static void leadsNot() {
        Check.says(0, "all other symbols of the right side are empty nonterminals");
        dueLeads("a terminal before it", false, new int[] {0, 8, 1});
        dueLeads("a terminal behind it", false, new int[] {0, 1, 8});
        dueLeads("a terminal among empty ones", false, new int[] {0, 2, 1, 2, 23, 2});
        dueLeads("one beside it that is not empty", false, new int[] {0, 1, 3});
        dueLeads("one before it that is not empty", false, new int[] {0, 3, 1});
        dueLeads("the last of five is not empty", false, new int[] {0, 1, 2, 2, 2, 2, 3});
        dueLeads("the first of five is not empty", false, new int[] {0, 3, 2, 2, 2, 2, 1});
        dueLeads("one beside it without a tree", false, new int[] {0, 1, 4});
        dueLeads("twice, and it is not empty", false, new int[] {0, 1, 1}, new int[] {1, 8});
        dueLeads("twice, and it has no tree", false, new int[] {0, 1, 1});
        dueLeads("it is not in the right side", false, new int[] {0, 2});
        dueLeads("it is the one beside the one led to", false, new int[] {0, 1, 3}, new int[] {1});
    }

    private static void circles() {
        Check.says(0, "There is a CIRCLE if from a nonterminal one is led, in one step or more, to itself.");
        Check.due("in no step", false, new Loom().circle());
        for (int steps = 1; steps <= 8; steps++) {
            for (int first = 0; first + steps <= 8; first++) {
                Loom x = new Loom();
                for (int i = 0; i + 1 < steps; i++) {
                    x.add(first + i, first + i + 1);
                }
                x.add(first, 8);
                Check.due("led on, not back", false, x.circle());
                x.add(first + steps - 1, first);
                Check.due(steps + " steps from " + first, true, x.circle());
            }
        }
        Loom y = new Loom();
        y.add(0, 1);
        y.add(0, 2);
        y.add(1, 3);
        y.add(2, 3);
        y.add(3, 8);
        Check.due("two ways to one", false, y.circle());
        y.add(4, 5);
        y.add(5, 4);
        Check.due("where 0 does not come", true, y.circle());
    }

    private static void orderByRules() {
        Check.says(0, "THE ORDER of trees of a nonterminal and a length (without a circle): by their "
                + "rules' numbers;");
        Loom x = new Loom();
        x.add(1, 9);
        x.add(0, 8);
        x.add(2, 8);
        x.add(0, 1);
        x.add(0, 10, 10);
        x.add(0, 10);
        Check.dueTree(x, 0, 1, 0, 1);
        Check.dueTree(x, 0, 1, 1, 3, 0);
        Check.dueTree(x, 0, 1, 2, 5);
        Check.dueTree(x, 0, 2, 0, 4);
        Check.due("number of the first", 0, x.numberOf(0, 1));
        Check.due("number of the second", 1, x.numberOf(0, 3, 0));
        Check.due("number of the third", 2, x.numberOf(0, 5));
        Check.due("number of another length", 0, x.numberOf(0, 4));
    }

    /** A shorter first tree comes first, though its rule comes later. */
    private static void orderByFirstLength() {
        Check.says(0, "those of one rule by the length of what the first symbol of the right side yields "
                + "(a terminal 1), the least first;");
        Loom x = new Loom();
        x.add(0, 1, 1);
        x.add(1, 8, 8);
        x.add(1, 9);
        x.add(1);
        int[][] rows = {{0, 3, 1}, {0, 2, 2}, {0, 1, 3}};
        for (int n = 0; n < 3; n++) {
            Check.dueTree(x, 0, 2, n, rows[n]);
            Check.due("number " + n, n, x.numberOf(0, rows[n]));
        }
        Check.dueTree(x, 0, 3, 0, 0, 2, 1);
        Check.dueTree(x, 0, 3, 1, 0, 1, 2);
        x.add(2, 23, 1, 1);
        Check.dueTree(x, 2, 2, 0, 4, 3, 2);
        Check.dueTree(x, 2, 2, 1, 4, 2, 3);
        Check.due("behind a terminal", 1, x.numberOf(2, 4, 2, 3));
    }

    private static void orderByFirstTree() {
        Check.says(0, "then by the first symbol's tree in THE ORDER;");
        Loom x = new Loom();
        x.add(1, 8);
        x.add(0, 1, 10, 1);
        x.add(1, 9);
        int[][] rows = {{1, 0, 0}, {1, 0, 2}, {1, 2, 0}, {1, 2, 2}};
        for (int n = 0; n < 4; n++) {
            Check.dueTree(x, 0, 3, n, rows[n]);
            Check.due("number " + n, n, x.numberOf(0, rows[n]));
        }
        Loom y = Grammars.pairs();
        y.drop(2);
        int[][] fours = {{0, 1, 0, 1, 0, 1, 1}, {0, 1, 0, 0, 1, 1, 1}, {0, 0, 1, 1, 0, 1, 1},
            {0, 0, 1, 0, 1, 1, 1}, {0, 0, 0, 1, 1, 1, 1}};
        for (int n = 0; n < 5; n++) {
            Check.dueTree(y, 0, 4, n, fours[n]);
            Check.due("number " + n, n, y.numberOf(0, fours[n]));
        }
    }

    /** The second symbol's length counts before the second symbol's tree, behind the first's tree. */
    private static void orderByFurtherSymbols() {
        Check.says(0, "then in the same way by the second symbol, and so on.");
        Loom x = new Loom();
        x.add(0, 1, 2, 2);
        x.add(1, 8);
        x.add(1, 9);
        x.add(2, 10);
        x.add(2);
        int[][] rows = {{0, 1, 4, 3}, {0, 1, 3, 4}, {0, 2, 4, 3}, {0, 2, 3, 4}};
        for (int n = 0; n < 4; n++) {
            Check.dueTree(x, 0, 2, n, rows[n]);
            Check.due("number " + n, n, x.numberOf(0, rows[n]));
        }
        Loom y = new Loom();
        y.add(0, 1, 1, 1, 1, 1, 1);
        y.add(1, 8);
        y.add(1);
        for (int n = 0; n < 6; n++) {
            int[] row = {0, 2, 2, 2, 2, 2, 2};
            row[6 - n] = 1;
            Check.dueTree(y, 0, 1, n, row);
            Check.due("number " + n + " of six", n, y.numberOf(0, row));
        }
    }

    private static void numbersFrom0() {
        Check.says(0, "Their numbers go from 0 on.");
        Loom x = Grammars.pairs();
        Check.due("trees", 16, x.trees(0, 3));
        Check.due("number -1", Check.NONE, x.draw(0, 3, -1));
        for (int n = 0; n < 16; n++) {
            Check.due("number " + n, 5, x.draw(0, 3, n));
            for (int i = 0; i < 5; i++) {
                x.list(x.row(i));
            }
            Check.due("told again", n, x.number(0));
        }
        Check.due("number 16", Check.NONE, x.draw(0, 3, 16));
    }

    private static void none() {
        Check.says(0, "The constants: `NONE = -1`: Nothing there.");
        Check.due("NONE", -1, GrammarLoom.NONE);
        Check.due("row(0)", GrammarLoom.NONE, new Loom().row(0));
    }

    private static void tooMany() {
        Check.says(0, "`TOO_MANY = -2`: More than 1000000000000000000; of trees to be drawn or told: more "
                + "than 200 rules.");
        Check.due("TOO_MANY", -2, GrammarLoom.TOO_MANY);
        Loom x = Grammars.most();
        Check.due("10^18", Grammars.MOST, x.trees(0, 0));
        x.rule(0);
        Check.due("10^18 + 1", GrammarLoom.TOO_MANY, x.trees(0, 0));
        Check.due("200 rules drawn", 200, Grammars.hundreds(4).draw(0, 0, 0));
        Check.due("201 rules drawn", GrammarLoom.TOO_MANY, Grammars.hundreds(5).draw(0, 0, 0));
        Loom y = new Loom();
        for (int i = 0; i < 200; i++) {
            Check.due("200 rules told", i + 1, y.list(i));
        }
        Check.due("201 rules told", Check.NONE, y.list(0));
    }
}
