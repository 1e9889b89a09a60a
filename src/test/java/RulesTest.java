/** Promises 1 to 6: a new object, symbol, rule, drop, count, about. */
public final class RulesTest {
    private static final int[] NO_SYMBOLS = {-1, 24, 25, Integer.MIN_VALUE, Integer.MAX_VALUE};
    private static final int[] NO_NONTERMINALS = {-1, 8, 23, Integer.MIN_VALUE, Integer.MAX_VALUE};

    public static void main(String[] args) {
        promise1NewObject();
        promise2Symbol();
        promise3Rule();
        promise3NoRule();
        promise3MostRules();
        promise4Drop();
        promise4DropLast();
        promise4DropKeepsTreeAndList();
        promise4DropChangesAnswers();
        promise5Count();
        promise6About();
        Check.end();
    }

    private static void promise1NewObject() {
        GrammarLoom x = new GrammarLoom();
        Check.due("new: count(0)", 0, x.count(0));
        Check.due("new: count(1)", 0, x.count(1));
        Check.due("new: count(2)", 0, x.count(2));
        Check.due("new: row(0)", Check.NONE, x.row(0));
        Check.due("new: leaf(0)", Check.NONE, x.leaf(0));
        Check.due("new: about(0, -1)", Check.NONE, x.about(0, -1));
        Check.due("new: drop(0)", false, x.drop(0));
        Check.due("new: circle()", false, x.circle());
        Check.due("new: number(0)", Check.NONE, x.number(0));
        for (int n = 0; n < 8; n++) {
            Check.due("new: shortest", Check.NONE, x.shortest(n));
            Check.due("new: trees", 0, x.trees(n, 0));
            Check.due("new: draw", Check.NONE, x.draw(n, 0, 0));
        }
        GrammarLoom other = new GrammarLoom();
        Check.rule(other, 0, 8);
        other.symbol(8);
        other.list(0);
        Check.due("an object does not see another: count(0)", 0, x.count(0));
        Check.due("an object does not see another: count(1)", 0, x.count(1));
        Check.due("an object does not see another: count(2)", 0, x.count(2));
    }

    private static void promise2Symbol() {
        GrammarLoom x = new GrammarLoom();
        int[] symbols = {0, 7, 8, 23, 0, 15};
        for (int i = 0; i < 6; i++) {
            for (int none : NO_SYMBOLS) {
                Check.due("symbol(" + none + ")", Check.NONE, x.symbol(none));
            }
            Check.due("symbol " + i, i + 1, x.symbol(symbols[i]));
            Check.due("text after symbol " + i, i + 1, x.count(1));
        }
        Check.due("a seventh symbol", Check.NONE, x.symbol(8));
        Check.due("a seventh symbol, none", Check.NONE, x.symbol(24));
        Check.due("text after a seventh symbol", 6, x.count(1));
        x.rule(3);
        for (int i = 0; i < 6; i++) {
            Check.due("about(0, " + i + ")", symbols[i], x.about(0, i));
        }
    }

    private static void promise3Rule() {
        GrammarLoom x = new GrammarLoom();
        Check.due("an empty right side", 0, x.rule(0));
        Check.due("its symbol 0", Check.NONE, x.about(0, 0));
        x.symbol(9);
        x.symbol(1);
        Check.due("the next rule", 1, x.rule(7));
        Check.due("the text is empty then", 0, x.count(1));
        Check.due("a rule behind a rule has no symbol of it", 2, x.rule(7));
        Check.due("its symbol 0", Check.NONE, x.about(2, 0));
        Check.due("the same rule again is a rule of its own", 3, Check.rule(x, 7, 9, 1));
        Check.due("rules", 4, x.count(0));
    }

    private static void promise3NoRule() {
        GrammarLoom x = new GrammarLoom();
        for (int none : NO_NONTERMINALS) {
            x.symbol(8);
            Check.due("rule(" + none + ")", Check.NONE, x.rule(none));
            Check.due("the text is empty all the same", 0, x.count(1));
            Check.due("there is no rule", 0, x.count(0));
        }
    }

    private static void promise3MostRules() {
        GrammarLoom x = new GrammarLoom();
        for (int i = 0; i < 24; i++) {
            Check.due("rule " + i, i, Check.rule(x, i % 8, i, i));
        }
        x.symbol(8);
        Check.due("a 25th rule", Check.NONE, x.rule(0));
        Check.due("text behind it", 0, x.count(1));
        Check.due("rules behind it", 24, x.count(0));
        x.drop(0);
        Check.due("a 24th rule again", 23, Check.rule(x, 5, 9));
        Check.due("its left side", 5, x.about(23, -1));
    }

    private static void promise4Drop() {
        GrammarLoom x = new GrammarLoom();
        Check.rule(x, 0, 8, 9);
        Check.rule(x, 1);
        Check.rule(x, 2, 10, 11, 12, 13, 14, 15);
        Check.rule(x, 3, 16);
        int[] none = {-1, 4, 24, Integer.MIN_VALUE, Integer.MAX_VALUE};
        for (int rule : none) {
            Check.due("drop(" + rule + ")", false, x.drop(rule));
        }
        Check.due("rules before", 4, x.count(0));
        Check.due("drop(1)", true, x.drop(1));
        Check.due("rules then", 3, x.count(0));
        Check.due("rule 0 stays", 0, x.about(0, -1));
        Check.due("rule 0 stays", 9, x.about(0, 1));
        Check.due("rule 2 is rule 1", 2, x.about(1, -1));
        Check.due("rule 2 is rule 1", 15, x.about(1, 5));
        Check.due("rule 3 is rule 2", 3, x.about(2, -1));
        Check.due("rule 3 is rule 2", 16, x.about(2, 0));
        Check.due("rule 3 is rule 2", Check.NONE, x.about(2, 1));
        Check.due("there is no rule 3", Check.NONE, x.about(3, -1));
        Check.due("drop(3)", false, x.drop(3));
    }

    private static void promise4DropLast() {
        GrammarLoom x = new GrammarLoom();
        for (int i = 0; i < 24; i++) {
            Check.rule(x, 0, 8, 8, 8, 8, 8, 23 - i);
        }
        Check.due("drop(23) of 24", true, x.drop(23));
        Check.due("drop(23) of 23", false, x.drop(23));
        Check.due("drop(0) of 23", true, x.drop(0));
        Check.due("the last symbol of the last rule", 1, x.about(21, 5));
        for (int left = 21; left >= 0; left--) {
            Check.due("drop(0)", true, x.drop(0));
            Check.due("rules left", left, x.count(0));
        }
        Check.due("drop(0) of none", false, x.drop(0));
    }

    private static void promise4DropKeepsTreeAndList() {
        GrammarLoom x = new GrammarLoom();
        Check.rule(x, 1, 9);
        Check.rule(x, 0, 8, 0);
        Check.rule(x, 0, 10);
        x.draw(0, 2, 0);
        x.list(0);
        x.list(1);
        x.symbol(8);
        x.drop(0);
        Check.dueRow("the tree stays", x, 1, 2);
        Check.dueYield("the tree stays", x, 8, 10);
        Check.due("the list stays", 2, x.count(2));
        Check.due("the text stays", 1, x.count(1));
        Check.due("the list has rule numbers of now", 0, x.number(0));
        x.drop(0);
        x.drop(0);
        Check.dueRow("the tree stays without any rule", x, 1, 2);
        Check.dueYield("the tree stays without any rule", x, 8, 10);
    }

    private static void promise4DropChangesAnswers() {
        GrammarLoom x = new GrammarLoom();
        Check.rule(x, 0, 8);
        Check.rule(x, 0, 0, 0);
        Check.rule(x, 0);
        Check.due("with an empty rule", true, x.circle());
        Check.due("with an empty rule", 0, x.shortest(0));
        x.drop(2);
        Check.due("without it", false, x.circle());
        Check.due("without it", 1, x.shortest(0));
        Check.due("without it", 2, x.trees(0, 3));
        Check.due("without it", 0, x.treesWith(0, 0));
        Check.due("without it", 2, x.treesWith(0, 3));
        x.drop(1);
        Check.due("without both", 0, x.trees(0, 3));
        Check.due("without both", 1, x.treesWith(0, 1));
        x.drop(0);
        Check.due("without all", Check.NONE, x.shortest(0));
        Check.due("without all", 0, x.trees(0, 1));
    }

    private static void promise5Count() {
        GrammarLoom x = new GrammarLoom();
        Check.rule(x, 0, 8);
        x.symbol(8);
        x.symbol(9);
        x.list(0);
        x.list(-7);
        x.list(5);
        Check.due("count(0)", 1, x.count(0));
        Check.due("count(1)", 2, x.count(1));
        Check.due("count(2)", 3, x.count(2));
        int[] none = {-1, 3, 4, Integer.MIN_VALUE, Integer.MAX_VALUE};
        for (int what : none) {
            Check.due("count(" + what + ")", Check.NONE, x.count(what));
        }
    }

    private static void promise6About() {
        GrammarLoom x = new GrammarLoom();
        Check.rule(x, 6, 8, 0, 23);
        Check.rule(x, 7);
        Check.rule(x, 5, 1, 2, 3, 4, 5, 6);
        Check.due("about(0, -1)", 6, x.about(0, -1));
        Check.due("about(0, 0)", 8, x.about(0, 0));
        Check.due("about(0, 1)", 0, x.about(0, 1));
        Check.due("about(0, 2)", 23, x.about(0, 2));
        Check.due("about(0, 3)", Check.NONE, x.about(0, 3));
        Check.due("about(1, -1)", 7, x.about(1, -1));
        Check.due("about(1, 0)", Check.NONE, x.about(1, 0));
        Check.due("about(2, 5)", 6, x.about(2, 5));
        Check.due("about(2, 6)", Check.NONE, x.about(2, 6));
        int[] none = {-2, 7, Integer.MIN_VALUE, Integer.MAX_VALUE};
        for (int i : none) {
            Check.due("about(2, " + i + ")", Check.NONE, x.about(2, i));
        }
        int[] noRules = {-1, 3, 24, Integer.MIN_VALUE, Integer.MAX_VALUE};
        for (int rule : noRules) {
            Check.due("about(" + rule + ", -1)", Check.NONE, x.about(rule, -1));
            Check.due("about(" + rule + ", 0)", Check.NONE, x.about(rule, 0));
        }
    }
}
