/** Promises 12 to 14: draw, row, leaf. */
public final class DrawTest {
    private static final long MOST = 1000000000000000000L;

    public static void main(String[] args) {
        promise12OrderByRules();
        promise12OrderByLengths();
        promise12OrderByTrees();
        promise12OrderOfSeveral();
        promise12NoTree();
        promise12NothingHappens();
        promise12LargeNumbers();
        promise12TwoHundredRules();
        promise12EndlessRow();
        promise12DeepTree();
        promise13Row();
        promise14Leaf();
        Check.end();
    }

    private static void dueTree(GrammarLoom x, int nonterminal, int length, long number, int... row) {
        String call = "draw(" + nonterminal + ", " + length + ", " + number + ")";
        Check.due(call, row.length, x.draw(nonterminal, length, number));
        Check.dueRow(call, x, row);
    }

    private static void promise12OrderByRules() {
        GrammarLoom x = new GrammarLoom();
        Check.rule(x, 1, 9);
        Check.rule(x, 0, 8);
        Check.rule(x, 2, 8);
        Check.rule(x, 0, 1);
        Check.rule(x, 0, 10, 10);
        Check.rule(x, 0, 10);
        dueTree(x, 0, 1, 0, 1);
        dueTree(x, 0, 1, 1, 3, 0);
        dueTree(x, 0, 1, 2, 5);
        Check.dueYield("the third of length 1", x, 10);
        Check.due("no fourth", Check.NONE, x.draw(0, 1, 3));
        dueTree(x, 0, 2, 0, 4);
        Check.dueYield("the first of length 2", x, 10, 10);
        dueTree(x, 1, 1, 0, 0);
        Check.dueYield("of another nonterminal", x, 9);
    }

    /** A shorter first tree comes first, though its rule comes later. */
    private static void promise12OrderByLengths() {
        GrammarLoom x = new GrammarLoom();
        Check.rule(x, 0, 1, 1);
        Check.rule(x, 1, 8, 8);
        Check.rule(x, 1, 9);
        Check.rule(x, 1);
        dueTree(x, 0, 2, 0, 0, 3, 1);
        dueTree(x, 0, 2, 1, 0, 2, 2);
        dueTree(x, 0, 2, 2, 0, 1, 3);
        Check.due("no fourth", Check.NONE, x.draw(0, 2, 3));
        dueTree(x, 0, 3, 0, 0, 2, 1);
        dueTree(x, 0, 3, 1, 0, 1, 2);
        Check.dueYield("the second of length 3", x, 8, 8, 9);
        dueTree(x, 0, 0, 0, 0, 3, 3);
        Check.dueYield("of length 0", x);
    }

    private static void promise12OrderByTrees() {
        GrammarLoom x = new GrammarLoom();
        Check.rule(x, 1, 8);
        Check.rule(x, 0, 1, 10, 1);
        Check.rule(x, 1, 9);
        dueTree(x, 0, 3, 0, 1, 0, 0);
        dueTree(x, 0, 3, 1, 1, 0, 2);
        Check.dueYield("the second", x, 8, 10, 9);
        dueTree(x, 0, 3, 2, 1, 2, 0);
        Check.dueYield("the third", x, 9, 10, 8);
        dueTree(x, 0, 3, 3, 1, 2, 2);
    }

    /** The second symbol's length counts before the second symbol's tree, behind the first's tree. */
    private static void promise12OrderOfSeveral() {
        GrammarLoom x = new GrammarLoom();
        Check.rule(x, 0, 1, 2, 2);
        Check.rule(x, 1, 8);
        Check.rule(x, 1, 9);
        Check.rule(x, 2, 10);
        Check.rule(x, 2);
        dueTree(x, 0, 2, 0, 0, 1, 4, 3);
        dueTree(x, 0, 2, 1, 0, 1, 3, 4);
        dueTree(x, 0, 2, 2, 0, 2, 4, 3);
        dueTree(x, 0, 2, 3, 0, 2, 3, 4);
        Check.due("no fifth", Check.NONE, x.draw(0, 2, 4));
    }

    private static void promise12NoTree() {
        GrammarLoom x = new GrammarLoom();
        Check.rule(x, 0, 8, 0);
        Check.rule(x, 0);
        Check.due("number -1", Check.NONE, x.draw(0, 1, -1));
        Check.due("number -2", Check.NONE, x.draw(0, 1, -2));
        Check.due("the least number", Check.NONE, x.draw(0, 1, Long.MIN_VALUE));
        Check.due("number 1 of 1", Check.NONE, x.draw(0, 1, 1));
        Check.due("the largest number", Check.NONE, x.draw(0, 1, Long.MAX_VALUE));
        Check.due("number 2^32", Check.NONE, x.draw(0, 1, 1L << 32));
        int[] noNonterminals = {-1, 8, Integer.MIN_VALUE, Integer.MAX_VALUE};
        for (int none : noNonterminals) {
            Check.due("draw(" + none + ", 0, 0)", Check.NONE, x.draw(none, 0, 0));
        }
        int[] noLengths = {-1, 17, Integer.MIN_VALUE, Integer.MAX_VALUE};
        for (int none : noLengths) {
            Check.due("draw(0, " + none + ", 0)", Check.NONE, x.draw(0, none, 0));
        }
        Check.due("no rules", Check.NONE, x.draw(1, 0, 0));
        Check.due("length 16", 17, x.draw(0, 16, 0));
        Check.rule(x, 5, 5);
        Check.due("a circle elsewhere", Check.NONE, x.draw(0, 1, 0));
    }

    private static void promise12NothingHappens() {
        GrammarLoom x = Grammars.hundreds(5);
        Check.rule(x, 6, 8, 6);
        Check.rule(x, 6, 9);
        x.draw(6, 2, 0);
        x.list(3);
        x.symbol(8);
        Check.due("more than 200 rules", Check.TOO_MANY, x.draw(0, 0, 0));
        Check.dueRow("the tree stays behind TOO_MANY", x, 6, 7);
        Check.dueYield("the tree stays behind TOO_MANY", x, 8, 9);
        Check.due("none such", Check.NONE, x.draw(6, 2, 1));
        Check.dueRow("the tree stays behind NONE", x, 6, 7);
        Check.dueYield("the tree stays behind NONE", x, 8, 9);
        Check.due("the list stays", 1, x.count(2));
        Check.due("the text stays", 1, x.count(1));
        Check.due("the rules stay", 8, x.count(0));
        x.draw(6, 1, 0);
        Check.dueRow("a shorter tree comes for a longer one", x, 7);
        Check.dueYield("a shorter tree comes for a longer one", x, 9);
        x.rule(6);
        Check.due("with a rule more", 2, x.draw(6, 2, 1));
        Check.dueRow("with a rule more", x, 6, 8);
        Check.dueYield("with a rule more", x, 8, 8);
    }

    private static void promise12LargeNumbers() {
        GrammarLoom x = Grammars.most();
        long[] numbers = {0, 1, 10, 123456789012345678L, 987654321098765432L, MOST - 1};
        for (long number : numbers) {
            dueDigits(x, number);
        }
        Check.due("number 10^18 of 10^18", Check.NONE, x.draw(0, 0, MOST));
        Check.rule(x, 0);
        Check.due("of more than 10^18", Check.NONE, x.draw(0, 0, 0));
        Check.due("of more than 10^18, the last", Check.NONE, x.draw(0, 0, MOST));
    }

    /** The digits of the number are the rules of nonterminal 2, which are rules 2 to 11. */
    private static void dueDigits(GrammarLoom x, long number) {
        Check.due("draw(0, 0, " + number + ")", 22, x.draw(0, 0, number));
        long left = number;
        for (int i = 21; i >= 0; i--) {
            if (i == 0 || i == 1 || i == 8 || i == 15) {
                Check.due("row(" + i + ") of " + number, i == 0 ? 0 : 1, x.row(i));
            } else {
                Check.due("row(" + i + ") of " + number, 2 + left % 10, x.row(i));
                left /= 10;
            }
        }
    }

    private static void promise12TwoHundredRules() {
        GrammarLoom x = Grammars.hundreds(4);
        Check.due("200 rules", 200, x.draw(0, 0, 0));
        Check.due("row(0)", 0, x.row(0));
        Check.due("row(195)", 5, x.row(195));
        Check.due("row(199)", 3, x.row(199));
        Check.due("row(200)", Check.NONE, x.row(200));
        Check.due("no leaf", Check.NONE, x.leaf(0));
        Check.due("201 rules", Check.TOO_MANY, Grammars.hundreds(5).draw(0, 0, 0));
        Check.due("199 rules", 199, Grammars.hundreds(3).draw(0, 0, 0));
        GrammarLoom y = Grammars.hundreds(4);
        y.drop(3);
        Check.rule(y, 3, 6);
        Check.rule(y, 6);
        Check.due("more than 200, the last ones each two", Check.TOO_MANY, y.draw(0, 0, 0));
        Check.due("none such before too many", Check.NONE, y.draw(0, 0, 1));
    }

    /** Each nonterminal six times the next one: a row of more than 300,000 rules. */
    private static void promise12EndlessRow() {
        GrammarLoom x = new GrammarLoom();
        for (int left = 0; left < 7; left++) {
            int part = left + 1;
            Check.rule(x, left, part, part, part, part, part, part);
        }
        Check.rule(x, 7);
        Check.due("one tree", 1, x.trees(0, 0));
        Check.due("of more than 300,000 rules", Check.TOO_MANY, x.draw(0, 0, 0));
        Check.due("of 43", 43, x.draw(5, 0, 0));
        Check.due("of 259", Check.TOO_MANY, x.draw(4, 0, 0));
        Check.due("no tree was drawn instead", 5, x.row(0));
        Check.due("no tree was drawn instead", Check.NONE, x.row(43));
    }

    private static void promise12DeepTree() {
        GrammarLoom x = Grammars.deep();
        Check.due("136 rules", 136, x.draw(0, 16, 0));
        for (int i = 0; i < 136; i++) {
            int due = i == 135 ? 8 : i % 8;
            Check.due("deep: row(" + i + ")", due, x.row(i));
        }
        for (int i = 0; i < 16; i++) {
            Check.due("deep: leaf(" + i + ")", 8, x.leaf(i));
        }
        Check.due("deep: leaf(16)", Check.NONE, x.leaf(16));
    }

    private static void promise13Row() {
        GrammarLoom x = new GrammarLoom();
        int[] all = {0, 1, -1, Integer.MAX_VALUE};
        for (int i : all) {
            Check.due("no tree yet: row(" + i + ")", Check.NONE, x.row(i));
        }
        Check.rule(x, 3, 8);
        Check.rule(x, 0, 9, 0, 1);
        Check.rule(x, 0);
        Check.rule(x, 1, 10);
        x.draw(0, 4, 0);
        Check.dueRow("as it was drawn", x, 1, 1, 2, 3, 3);
        Check.due("row(-1)", Check.NONE, x.row(-1));
        Check.due("the least i", Check.NONE, x.row(Integer.MIN_VALUE));
        Check.due("the largest i", Check.NONE, x.row(Integer.MAX_VALUE));
        x.drop(0);
        Check.dueRow("the numbers of then", x, 1, 1, 2, 3, 3);
        x.draw(0, 2, 0);
        Check.dueRow("the numbers of now", x, 0, 1, 2);
    }

    private static void promise14Leaf() {
        GrammarLoom x = new GrammarLoom();
        Check.due("no tree yet: leaf(0)", Check.NONE, x.leaf(0));
        Check.rule(x, 0, 8, 0, 1, 23);
        Check.rule(x, 0);
        Check.rule(x, 1, 10);
        x.draw(0, 6, 0);
        Check.dueYield("from left to right", x, 8, 8, 10, 23, 10, 23);
        Check.due("leaf(-1)", Check.NONE, x.leaf(-1));
        Check.due("the least i", Check.NONE, x.leaf(Integer.MIN_VALUE));
        Check.due("the largest i", Check.NONE, x.leaf(Integer.MAX_VALUE));
        x.drop(0);
        Check.dueYield("behind a drop", x, 8, 8, 10, 23, 10, 23);
        x.draw(0, 0, 0);
        Check.dueYield("of an empty tree", x);
    }
}
