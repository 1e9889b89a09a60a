import java.util.Arrays;

/** Promises 1 to 6: a new object, symbol, rule, drop, count, about. */
public final class RulesTest {
    public static void main(String[] args) {
        run();
        Check.end();
    }

    static void run() {
        newWithoutRules();
        newWithoutText();
        newWithoutList();
        newWithoutTree();
        symbolComes();
        symbolIsNone();
        symbolBehindSix();
        textIsEmptyThen();
        textIsTheRightSide();
        ruleBehind24();
        ruleOfNoNonterminal();
        dropRule();
        dropMovesTheOthers();
        dropNone();
        dropKeepsTreeAndList();
        dropChangesAnswers();
        countRules();
        countSymbols();
        countListed();
        countAnother();
        aboutLeftSide();
        aboutSymbols();
        aboutNone();
    }

    // ---- promise 1

    private static void newWithoutRules() {
        Check.says(1, "No rules;");
        Loom x = new Loom();
        Check.due("count(0)", 0, x.count(0));
        Check.due("about(0, -1)", Check.NONE, x.about(0, -1));
        Check.due("drop(0)", false, x.drop(0));
        Check.due("circle()", false, x.circle());
        Check.due("shortestWith(0)", Check.NONE, x.shortestWith(0));
        Check.due("treesWith(0, 0)", Check.NONE, x.treesWith(0, 0));
        for (int n = 0; n < 8; n++) {
            Check.due("shortest(" + n + ")", Check.NONE, x.shortest(n));
            Check.due("trees(" + n + ", 0)", 0, x.trees(n, 0));
            Check.due("trees(" + n + ", 16)", 0, x.trees(n, 16));
            Check.due("draw(" + n + ", 0, 0)", Check.NONE, x.draw(n, 0, 0));
        }
        Check.due("the first rule", 0, x.rule(0));
    }

    private static void newWithoutText() {
        Check.says(1, "the text has no symbols,");
        Loom x = new Loom();
        Check.due("count(1)", 0, x.count(1));
        x.rule(0);
        Check.dueRule("of a new object's text", x, 0, 0);
        Check.due("the first symbol", 1, new Loom().symbol(8));
    }

    private static void newWithoutList() {
        Check.says(1, "the list no rules,");
        Loom x = new Loom();
        Check.due("count(2)", 0, x.count(2));
        x.rule(0);
        Check.due("number(0)", Check.NONE, x.number(0));
        Check.due("the first of the list", 1, x.list(0));
    }

    private static void newWithoutTree() {
        Check.says(1, "no tree is drawn.");
        Loom x = new Loom();
        Check.due("row(0)", Check.NONE, x.row(0));
        Check.due("leaf(0)", Check.NONE, x.leaf(0));
        Loom other = new Loom();
        other.add(0, 8);
        other.symbol(8);
        other.list(0);
        other.draw(0, 1, 0);
        Check.due("another object's tree", Check.NONE, x.row(0));
        Check.due("another object's tree", Check.NONE, x.leaf(0));
        Check.dueCounts("beside another object", x, 0, 0, 0);
    }

    // ---- promise 2

    private static void symbolComes() {
        Check.says(2, "A symbol more in the text: how many it has;");
        for (int first = 0; first < 24; first++) {
            Loom x = new Loom();
            int[] text = new int[6];
            for (int i = 0; i < 6; i++) {
                text[i] = (first + 5 * i) % 24;
                Check.due("symbol(" + text[i] + ")", i + 1, x.symbol(text[i]));
                Check.due("the text's size", i + 1, x.count(1));
            }
            x.rule(0);
            Check.dueRule("the text", x, 0, 0, text);
        }
    }

    private static void symbolIsNone() {
        Check.says(2, "NONE, and it does not come, if it is none,");
        for (int size = 0; size <= 6; size++) {
            Loom x = new Loom();
            for (int i = 0; i < size; i++) {
                x.symbol(8 + i);
            }
            for (int none : Wrong.SYMBOLS) {
                Check.due("symbol(" + none + ")", Check.NONE, x.symbol(none));
                Check.due("the text's size", size, x.count(1));
            }
            x.rule(3);
            Check.dueRule("the text", x, 0, 3, Arrays.copyOf(new int[] {8, 9, 10, 11, 12, 13}, size));
        }
    }

    private static void symbolBehindSix() {
        Check.says(2, "or there are six.");
        Loom x = new Loom();
        x.write(8, 9, 10, 11, 12);
        Check.due("the sixth", 6, x.symbol(13));
        for (int s = 0; s < 24; s++) {
            Check.due("a seventh", Check.NONE, x.symbol(s));
        }
        Check.due("the text's size", 6, x.count(1));
        x.rule(1);
        Check.dueRule("the text", x, 0, 1, 8, 9, 10, 11, 12, 13);
        Check.due("the first of the next text", 1, x.symbol(14));
    }

    // ---- promise 3

    private static void textIsEmptyThen() {
        Check.says(3, "The text (which has none then, whatever comes of it)");
        Loom x = new Loom();
        x.write(8, 9);
        x.rule(0);
        Check.due("behind a rule", 0, x.count(1));
        x.rule(0);
        Check.dueRule("the next rule", x, 1, 0);
        x.write(8, 9, 10, 11, 12, 13);
        x.rule(8);
        Check.due("behind no nonterminal", 0, x.count(1));
        Check.due("the text begins anew", 1, x.symbol(14));
        x.rule(7);
        Check.dueRule("of the new text alone", x, 2, 7, 14);
        x.addTimes(21, 0);
        x.write(8, 9);
        x.rule(0);
        Check.due("behind a 25th rule", 0, x.count(1));
        Check.due("the text begins anew", 1, x.symbol(15));
        x.drop(0);
        x.rule(6);
        Check.dueRule("of the new text alone", x, 23, 6, 15);
    }

    private static void textIsTheRightSide() {
        Check.says(3, "is the right side of a new rule: its number.");
        Loom x = new Loom();
        Check.due("without symbols", 0, x.rule(0));
        Check.due("of two symbols", 1, x.add(7, 9, 1));
        Check.due("of six symbols", 2, x.add(3, 23, 0, 8, 7, 3, 3));
        Check.due("a rule again", 3, x.add(7, 9, 1));
        Check.dueRule("without symbols", x, 0, 0);
        Check.dueRule("of two symbols", x, 1, 7, 9, 1);
        Check.dueRule("of six symbols", x, 2, 3, 23, 0, 8, 7, 3, 3);
        Check.dueRule("a rule again", x, 3, 7, 9, 1);
        for (int i = 4; i < 24; i++) {
            Check.due("the next number", i, x.add(i % 8, i));
        }
    }

    private static void ruleBehind24() {
        Check.says(3, "NONE, and there is none, if there are 24,");
        Loom x = new Loom();
        x.addTimes(23, 0, 8);
        Check.due("the 24th", 23, x.add(0, 9));
        for (int left = 0; left < 8; left++) {
            Check.due("a 25th", Check.NONE, x.add(left, 10));
            Check.due("rules", 24, x.count(0));
            Check.due("about the 25th", Check.NONE, x.about(24, -1));
        }
        Check.due("a 25th of no nonterminal", Check.NONE, x.add(8, 10));
        Check.dueRule("the 24th stays", x, 23, 0, 9);
        Check.due("no trees of a 25th", 24, x.trees(0, 1));
        Check.due("no trees of a 25th", 0, x.trees(1, 1));
        x.drop(5);
        Check.due("the 24th again", 23, x.add(5, 11));
        Check.dueRule("the 24th again", x, 23, 5, 11);
        Check.due("a 25th again", Check.NONE, x.rule(0));
    }

    private static void ruleOfNoNonterminal() {
        Check.says(3, "or the left side is no nonterminal.");
        Loom x = new Loom();
        x.add(0, 8);
        for (int none : Wrong.NONTERMINALS) {
            Check.due("rule(" + none + ")", Check.NONE, x.add(none, 9));
            Check.due("rules", 1, x.count(0));
        }
        Check.due("about(1, -1)", Check.NONE, x.about(1, -1));
        Check.due("trees of 0", 1, x.trees(0, 1));
        for (int left = 0; left < 8; left++) {
            Check.due("rule(" + left + ")", 1 + left, x.rule(left));
        }
    }

    // ---- promise 4

    private static void dropRule() {
        Check.says(4, "A rule is no more;");
        for (int size = 1; size <= 24; size += 23) {
            for (int rule = 0; rule < size; rule++) {
                Loom x = new Loom();
                for (int i = 0; i < size; i++) {
                    x.add(0, i == rule ? 23 : 8, 8);
                }
                Check.due("drop(" + rule + ") of " + size, true, x.drop(rule));
                Check.due("rules", size - 1, x.count(0));
                for (int i = 0; i + 1 < size; i++) {
                    Check.due("it is not there any more", 8, x.about(i, 0));
                }
                Check.due("about the last", Check.NONE, x.about(size - 1, -1));
                Check.due("trees", size - 1, x.trees(0, 2));
            }
        }
    }

    private static void dropMovesTheOthers() {
        Check.says(4, "those behind it have numbers one less: true;");
        Loom x = new Loom();
        x.add(0, 8, 9);
        x.add(1);
        x.add(2, 10, 11, 12, 13, 14, 15);
        x.add(3, 16);
        Check.due("drop(1)", true, x.drop(1));
        Check.dueRule("before it", x, 0, 0, 8, 9);
        Check.dueRule("behind it", x, 1, 2, 10, 11, 12, 13, 14, 15);
        Check.dueRule("behind it", x, 2, 3, 16);
        Check.due("drop(2), the last", true, x.drop(2));
        Check.dueRule("before it", x, 1, 2, 10, 11, 12, 13, 14, 15);
        Check.due("drop(0), the first", true, x.drop(0));
        Check.dueRule("behind it", x, 0, 2, 10, 11, 12, 13, 14, 15);
        Check.due("a new one comes behind", 1, x.add(4, 17));
        Check.dueRule("a new one comes behind", x, 1, 4, 17);
        Loom y = new Loom();
        for (int i = 0; i < 24; i++) {
            y.add(i % 8, 8, 8, 8, 8, 8, 23 - i);
        }
        y.drop(0);
        Check.dueRule("the last of 24", y, 22, 7, 8, 8, 8, 8, 8, 0);
        Check.dueRule("the first behind the first", y, 0, 1, 8, 8, 8, 8, 8, 22);
        Check.due("no rule 23", Check.NONE, y.about(23, -1));
    }

    private static void dropNone() {
        Check.says(4, "false if there is none such.");
        Loom x = new Loom();
        for (int none : Wrong.places(0)) {
            Check.due("of no rules: drop(" + none + ")", false, x.drop(none));
        }
        x.add(5, 8, 0);
        x.add(6);
        for (int none : Wrong.places(2)) {
            Check.due("of two: drop(" + none + ")", false, x.drop(none));
        }
        Check.due("rules", 2, x.count(0));
        Check.dueRule("the first stays", x, 0, 5, 8, 0);
        Check.dueRule("the second stays", x, 1, 6);
        x.drop(1);
        Check.due("a second time", false, x.drop(1));
        x.addTimes(23, 0);
        Check.due("of 24: drop(24)", false, x.drop(24));
        Check.due("of 24: drop(-1)", false, x.drop(-1));
        Check.due("of 24: drop(23)", true, x.drop(23));
        Check.due("of 23: drop(23)", false, x.drop(23));
    }

    private static void dropKeepsTreeAndList() {
        Check.says(4, "(The tree that is drawn, and the list, stay.)");
        Loom x = new Loom();
        x.add(1, 9);
        x.add(0, 8, 0);
        x.add(0, 10);
        x.draw(0, 2, 0);
        x.tell(0, 1);
        x.symbol(8);
        x.drop(0);
        Check.dueRow("the tree", x, 1, 2);
        Check.dueYield("the tree", x, 8, 10);
        Check.dueCounts("the list, and the text", x, 2, 1, 2);
        Check.due("the list's numbers as the rules are now", 0, x.number(0));
        x.tell(5, 6, 7);
        x.drop(0);
        x.drop(0);
        Check.dueRow("the tree without any rule", x, 1, 2);
        Check.dueYield("the tree without any rule", x, 8, 10);
        Check.dueCounts("the list without any rule", x, 0, 1, 3);
        Check.due("the list goes on", 4, x.list(8));
    }

    private static void dropChangesAnswers() {
        Check.says(4, "A rule is no more;");
        Loom x = new Loom();
        x.add(0, 8);
        x.add(0, 0, 0);
        x.add(0);
        Check.due("with an empty rule", true, x.circle());
        Check.due("with an empty rule", 0, x.shortest(0));
        x.drop(2);
        Check.due("without it", false, x.circle());
        Check.due("without it", 1, x.shortest(0));
        Check.due("without it", 2, x.trees(0, 3));
        Check.due("without it", 0, x.treesWith(0, 0));
        Check.due("without it", 2, x.treesWith(0, 3));
        Check.due("without it", 2, x.shortestWith(1));
        x.drop(1);
        Check.due("without both", 0, x.trees(0, 3));
        Check.due("without both", 1, x.treesWith(0, 1));
        Check.due("without both", Check.NONE, x.shortestWith(1));
        x.drop(0);
        Check.due("without all", Check.NONE, x.shortest(0));
        Check.due("without all", 0, x.trees(0, 1));
        Check.due("without all", Check.NONE, x.draw(0, 1, 0));
        Check.due("without all", Check.NONE, x.numberOf(0, 0));
    }

    // ---- promise 5

    private static void countRules() {
        Check.says(5, "How many rules (what 0),");
        Loom x = new Loom();
        for (int i = 0; i < 24; i++) {
            Check.due("count(0)", i, x.count(0));
            x.add(0, 8);
        }
        Check.due("count(0) of 24", 24, x.count(0));
        x.rule(0);
        Check.due("count(0) behind a 25th", 24, x.count(0));
        x.drop(24);
        Check.due("count(0) behind no drop", 24, x.count(0));
        x.drop(0);
        Check.due("count(0) behind a drop", 23, x.count(0));
    }

    private static void countSymbols() {
        Check.says(5, "symbols of the text (1),");
        Loom x = new Loom();
        for (int i = 0; i < 6; i++) {
            Check.due("count(1)", i, x.count(1));
            x.symbol(i);
        }
        Check.due("count(1) of six", 6, x.count(1));
        x.symbol(0);
        Check.due("count(1) behind a seventh", 6, x.count(1));
        x.rule(0);
        Check.due("count(1) behind a rule", 0, x.count(1));
    }

    private static void countListed() {
        Check.says(5, "rules of the list (2);");
        Loom x = new Loom();
        for (int i = 0; i < 200; i++) {
            Check.due("count(2)", i, x.count(2));
            x.list(-i);
        }
        Check.due("count(2) of 200", 200, x.count(2));
        x.list(0);
        Check.due("count(2) behind a 201st", 200, x.count(2));
        x.number(0);
        Check.due("count(2) behind a number", 0, x.count(2));
    }

    private static void countAnother() {
        Check.says(5, "NONE for another what.");
        Loom x = new Loom();
        x.add(0, 8);
        x.write(8, 9);
        x.tell(0, -7, 5);
        for (int what : Wrong.WHATS) {
            Check.due("count(" + what + ")", Check.NONE, x.count(what));
        }
        Check.dueCounts("the three", x, 1, 2, 3);
    }

    // ---- promise 6

    private static void aboutLeftSide() {
        Check.says(6, "The left side of a rule (i -1)");
        Loom x = new Loom();
        for (int rule = 0; rule < 24; rule++) {
            x.add(7 - rule % 8, 8 + rule % 16);
        }
        for (int rule = 0; rule < 24; rule++) {
            Check.due("about(" + rule + ", -1)", 7 - rule % 8, x.about(rule, -1));
        }
    }

    private static void aboutSymbols() {
        Check.says(6, "or symbol i of its right side, from 0 on;");
        Loom x = new Loom();
        int[] right = new int[6];
        for (int rule = 0; rule < 24; rule++) {
            x.add(0, right(right, rule));
        }
        for (int rule = 0; rule < 24; rule++) {
            right(right, rule);
            for (int i = 0; i < 6; i++) {
                Check.due("about(" + rule + ", " + i + ")", right[i], x.about(rule, i));
            }
        }
    }

    private static int[] right(int[] right, int rule) {
        for (int i = 0; i < 6; i++) {
            right[i] = (rule + 7 * i) % 24;
        }
        return right;
    }

    private static void aboutNone() {
        Check.says(6, "NONE if there is none such.");
        Loom x = new Loom();
        Check.due("no rules: about(0, -1)", Check.NONE, x.about(0, -1));
        Check.due("no rules: about(-1, -1)", Check.NONE, x.about(-1, -1));
        x.add(5, 1, 2, 3, 4, 5, 6);
        x.add(6, 8, 0, 23);
        x.rule(7);
        int[] sizes = {6, 3, 0};
        for (int rule = 0; rule < 3; rule++) {
            for (int i : Wrong.places(sizes[rule])) {
                int due = i == -1 ? 5 + rule : Check.NONE;
                Check.due("about(" + rule + ", " + i + ")", due, x.about(rule, i));
            }
        }
        for (int rule : Wrong.places(3)) {
            Check.due("about(" + rule + ", -1)", Check.NONE, x.about(rule, -1));
            Check.due("about(" + rule + ", 0)", Check.NONE, x.about(rule, 0));
        }
        x.symbol(8);
        Check.due("the text is no rule", Check.NONE, x.about(3, -1));
        x.drop(0);
        Check.due("of the rule that moved: about(0, 3)", Check.NONE, x.about(0, 3));
        Check.due("of the rule that moved: about(1, 0)", Check.NONE, x.about(1, 0));
        Check.due("no rule there any more", Check.NONE, x.about(2, -1));
    }
}
