/** Promises 15 and 16: list, number. */
public final class NumberTest {
    private static final long MOST = 1000000000000000000L;

    public static void main(String[] args) {
        promise15List();
        promise16Number();
        promise16Order();
        promise16NoTree();
        promise16ListIsEmptyThen();
        promise16Lengths();
        promise16Circle();
        promise16LargeNumbers();
        promise16TwoHundredRules();
        promise16DeepTree();
        promise16LeavesTheTree();
        Check.end();
    }

    private static void promise15List() {
        GrammarLoom x = new GrammarLoom();
        int[] any = {0, -1, 24, Integer.MIN_VALUE, Integer.MAX_VALUE};
        for (int i = 0; i < 200; i++) {
            Check.due("list " + i, i + 1, x.list(any[i % 5]));
        }
        Check.due("count(2)", 200, x.count(2));
        Check.due("list 200", Check.NONE, x.list(0));
        Check.due("count(2) behind it", 200, x.count(2));
        Check.due("no row", Check.NONE, x.number(0));
        Check.due("the next list", 1, x.list(0));
    }

    /** Rules 1 and 3 of nonterminal 0, 0 and 2 of nonterminal 1. */
    private static GrammarLoom two() {
        GrammarLoom x = new GrammarLoom();
        Check.rule(x, 1, 8);
        Check.rule(x, 0, 1, 9, 1);
        Check.rule(x, 1);
        Check.rule(x, 0, 9, 0);
        return x;
    }

    private static void promise16Number() {
        GrammarLoom x = two();
        Check.due("length 1", 0, Check.number(x, 0, 1, 2, 2));
        Check.due("length 2, first", 0, Check.number(x, 0, 1, 2, 0));
        Check.due("length 2, second", 1, Check.number(x, 0, 1, 0, 2));
        Check.due("length 2, third", 2, Check.number(x, 0, 3, 1, 2, 2));
        Check.due("length 3, first", 0, Check.number(x, 0, 1, 0, 0));
        Check.due("length 3, third", 2, Check.number(x, 0, 3, 1, 0, 2));
        Check.due("length 4, last", 3, Check.number(x, 0, 3, 3, 3, 1, 2, 2));
        Check.due("of nonterminal 1", 0, Check.number(x, 1, 0));
        Check.due("of nonterminal 1, empty", 0, Check.number(x, 1, 2));
    }

    /** Rules 0 and 2 of nonterminal 0, 1, 3 and 4 of nonterminal 1. */
    private static GrammarLoom between() {
        GrammarLoom x = new GrammarLoom();
        Check.rule(x, 0, 1, 0, 1);
        Check.rule(x, 1, 8, 8);
        Check.rule(x, 0, 10);
        Check.rule(x, 1, 9);
        Check.rule(x, 1, 9, 9);
        return x;
    }

    private static void promise16Order() {
        GrammarLoom x = between();
        Check.due("shorter first tree first", 0, Check.number(x, 0, 0, 3, 2, 1));
        Check.due("then by the rule behind", 1, Check.number(x, 0, 0, 3, 2, 4));
        Check.due("longer first tree later", 2, Check.number(x, 0, 0, 1, 2, 3));
        Check.due("and by its rule", 3, Check.number(x, 0, 0, 4, 2, 3));
        for (int length = 0; length <= 9; length++) {
            GrammarLoom y = between();
            long trees = y.trees(0, length);
            for (long n = 0; n < trees; n += 1 + trees / 8) {
                int rules = y.draw(0, length, n);
                for (int i = 0; i < rules; i++) {
                    y.list(y.row(i));
                }
                Check.due("the tree drawn, length " + length, n, y.number(0));
            }
        }
    }

    private static void promise16NoTree() {
        GrammarLoom x = two();
        Check.due("an empty list", Check.NONE, Check.number(x, 0));
        Check.due("too short", Check.NONE, Check.number(x, 0, 1, 2));
        Check.due("too long", Check.NONE, Check.number(x, 0, 1, 2, 2, 2));
        Check.due("two trees", Check.NONE, Check.number(x, 1, 0, 0));
        Check.due("a wrong kind within", Check.NONE, Check.number(x, 0, 1, 1, 2, 2, 2));
        Check.due("a wrong kind at the end", Check.NONE, Check.number(x, 0, 3, 0));
        Check.due("of another nonterminal", Check.NONE, Check.number(x, 1, 1, 2, 2));
        Check.due("of one without rules", Check.NONE, Check.number(x, 2, 1, 2, 2));
        int[] noNonterminals = {-1, 8, Integer.MIN_VALUE, Integer.MAX_VALUE};
        for (int none : noNonterminals) {
            Check.due("number(" + none + ")", Check.NONE, Check.number(x, none, 1, 2, 2));
        }
        int[] noRules = {-1, 4, 24, Integer.MIN_VALUE, Integer.MAX_VALUE};
        for (int none : noRules) {
            Check.due("rule " + none + " alone", Check.NONE, Check.number(x, 0, none));
            Check.due("rule " + none + " within", Check.NONE, Check.number(x, 0, 1, none, 2));
            Check.due("rule " + none + " behind", Check.NONE, Check.number(x, 0, 1, 2, 2, none));
        }
        Check.due("a right one still", 0, Check.number(x, 0, 1, 2, 2));
    }

    private static void promise16ListIsEmptyThen() {
        GrammarLoom x = two();
        Check.number(x, 0, 1, 2, 2);
        Check.due("behind a number", 0, x.count(2));
        Check.number(x, 0, 1, 2);
        Check.due("behind no tree", 0, x.count(2));
        Check.number(x, 8, 1, 2, 2);
        Check.due("behind no nonterminal", 0, x.count(2));
        Check.number(x, 0, 99);
        Check.due("behind no rule", 0, x.count(2));
        Check.rule(x, 5, 5);
        Check.number(x, 0, 1, 2, 2);
        Check.due("behind a circle", 0, x.count(2));
    }

    private static void promise16Lengths() {
        GrammarLoom x = new GrammarLoom();
        Check.rule(x, 0, 8, 0);
        Check.rule(x, 0);
        Check.rule(x, 1, 0);
        int[] lengths = {0, 1, 15, 16, 17, 18, 33};
        for (int length : lengths) {
            for (int i = 0; i < length; i++) {
                x.list(0);
            }
            x.list(1);
            Check.due("a row of length " + length, length <= 16 ? 0 : Check.NONE, x.number(0));
        }
        for (int i = 0; i < 199; i++) {
            x.list(0);
        }
        x.list(1);
        Check.due("a row of length 199", Check.NONE, x.number(0));
    }

    private static void promise16Circle() {
        GrammarLoom x = two();
        Check.rule(x, 5, 5);
        Check.due("a circle elsewhere", Check.NONE, Check.number(x, 0, 1, 2, 2));
        x.list(1);
        x.list(2);
        x.list(2);
        x.drop(4);
        Check.due("no circle any more", 0, x.number(0));
    }

    private static void promise16LargeNumbers() {
        GrammarLoom x = Grammars.most();
        long[] numbers = {0, 1, 123456789012345678L, 987654321098765432L, MOST - 1};
        for (long number : numbers) {
            Check.due("number " + number, number, Check.number(x, 0, digits(number)));
        }
        Check.rule(x, 0);
        Check.due("of more than 10^18", Check.NONE, Check.number(x, 0, digits(0)));
        Check.due("of more than 10^18, the last", Check.NONE, Check.number(x, 0, 12));
        Check.due("the list is empty then", 0, x.count(2));
        Check.due("a part of it has a number", 999999, Check.number(x, 1, 1, 11, 11, 11, 11, 11, 11));
    }

    private static int[] digits(long number) {
        int[] row = new int[22];
        long left = number;
        for (int i = 21; i >= 1; i--) {
            if (i == 1 || i == 8 || i == 15) {
                row[i] = 1;
            } else {
                row[i] = (int) (2 + left % 10);
                left /= 10;
            }
        }
        return row;
    }

    private static void promise16TwoHundredRules() {
        GrammarLoom x = Grammars.hundreds(4);
        Check.due("200 rules", 200, x.draw(0, 0, 0));
        for (int i = 0; i < 200; i++) {
            x.list(x.row(i));
        }
        Check.due("the number of a row of 200", 0, x.number(0));
        GrammarLoom y = new GrammarLoom();
        Check.rule(y, 3);
        for (int i = 0; i < 200; i++) {
            y.list(0);
        }
        Check.due("200 trees", Check.NONE, y.number(3));
    }

    private static void promise16DeepTree() {
        GrammarLoom x = Grammars.deep();
        for (int i = 0; i < 135; i++) {
            x.list(i % 8);
        }
        x.list(8);
        Check.due("the number of a row of 136", 0, x.number(0));
    }

    private static void promise16LeavesTheTree() {
        GrammarLoom x = two();
        x.draw(0, 3, 2);
        x.symbol(8);
        Check.number(x, 0, 1, 2, 0);
        Check.dueRow("the tree stays", x, 3, 1, 0, 2);
        Check.dueYield("the tree stays", x, 9, 8, 9);
        Check.due("the text stays", 1, x.count(1));
        Check.due("the rules stay", 4, x.count(0));
    }
}
