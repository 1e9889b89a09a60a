/** Promises 7 to 9: shortest, shortestWith, circle. */
public final class LengthsTest {
    public static void main(String[] args) {
        run();
        Check.end();
    }

    static void run() {
        shortest();
        shortestIsZero();
        shortestOfAll();
        shorterByDetour();
        shortestWithoutTree();
        shortestOfNoNonterminal();
        shortestWith();
        shortestWithIsZero();
        shortestWithOfAll();
        waysToTheRule();
        noTreeWith();
        noTreeWithFurtherDown();
        noTreeWithWhatStandsBehind();
        shortestWithNoRule();
        circleOfOneStep();
        circleOfSeveralSteps();
        circleBesideEmptyOnes();
        circleWithoutTrees();
        circleWhenRulesChange();
    }

    // ---- promise 7

    private static void shortest() {
        Check.says(7, "The least length of a nonterminal's trees;");
        Loom x = new Loom();
        x.add(0, 8, 1, 2);
        x.add(0, 0, 0);
        x.add(1, 9, 9, 9);
        x.add(1, 2, 2);
        x.add(2, 10);
        Check.due("shortest(0)", 4, x.shortest(0));
        Check.due("shortest(1)", 2, x.shortest(1));
        Check.due("shortest(2)", 1, x.shortest(2));
        x.add(7, 10, 10, 0);
        Check.due("shortest(7)", 6, x.shortest(7));
        x.add(3, 3);
        x.add(3, 8);
        Check.due("a circle does not matter", 1, x.shortest(3));
        Check.due("a circle elsewhere does not matter", 4, x.shortest(0));
        x.add(4, 8, 9);
        Check.due("one rule", 2, x.shortest(4));
        x.add(4, 8);
        Check.due("a shorter one behind it", 1, x.shortest(4));
        x.add(4, 8, 9, 10);
        Check.due("a longer one behind it", 1, x.shortest(4));
    }

    private static void shortestIsZero() {
        Check.says(7, "The least length");
        Loom x = new Loom();
        x.add(0, 1, 1, 1, 1, 1, 1);
        x.add(1, 8);
        Check.due("six of one", 6, x.shortest(0));
        x.rule(1);
        Check.due("an empty rule", 0, x.shortest(1));
        Check.due("six of an empty one", 0, x.shortest(0));
    }

    /** Each nonterminal six times the next one: no least length is more. */
    private static void shortestOfAll() {
        Check.says(7, "The least length of a nonterminal's trees;");
        Loom x = Grammars.sixfold(8);
        Loom y = new Loom();
        for (int left = 7; left >= 0; left--) {
            int part = left == 7 ? 8 : left + 1;
            y.add(left, part, part, part, part, part, part);
        }
        int length = 6;
        for (int left = 7; left >= 0; left--) {
            Check.due("six times the next: shortest(" + left + ")", length, x.shortest(left));
            Check.due("the rules turned round: shortest(" + left + ")", length, y.shortest(left));
            length *= 6;
        }
    }

    /** The first tree that is found is not the shortest one. */
    private static void shorterByDetour() {
        Check.says(7, "The least length of a nonterminal's trees;");
        Loom x = new Loom();
        for (int left = 0; left < 7; left++) {
            x.add(left, 8, 8, 8, 8, 8, 8);
            x.add(left, left + 1);
        }
        x.rule(7);
        for (int left = 0; left < 8; left++) {
            Check.due("by the last one: shortest(" + left + ")", 0, x.shortest(left));
        }
    }

    private static void shortestWithoutTree() {
        Check.says(7, "NONE if it has no tree,");
        Loom x = new Loom();
        x.add(0, 8, 0);
        x.add(1, 8, 2);
        x.add(3, 8);
        x.add(4, 3, 1);
        x.add(5, 6);
        x.add(6, 5);
        x.add(7, 7, 7);
        Check.due("only itself again", Check.NONE, x.shortest(0));
        Check.due("one without rules in it", Check.NONE, x.shortest(1));
        Check.due("no rules", Check.NONE, x.shortest(2));
        Check.due("one without trees in it", Check.NONE, x.shortest(4));
        Check.due("each the other", Check.NONE, x.shortest(5));
        Check.due("each the other", Check.NONE, x.shortest(6));
        Check.due("itself twice", Check.NONE, x.shortest(7));
        Check.due("one with a tree", 1, x.shortest(3));
        x.rule(2);
        Check.due("with the rule that was missing", 1, x.shortest(1));
        Check.due("with the rule that was missing", 2, x.shortest(4));
        x.drop(7);
        Check.due("without it again", Check.NONE, x.shortest(4));
    }

    private static void shortestOfNoNonterminal() {
        Check.says(7, "or is none.");
        Loom x = new Loom();
        for (int n = 0; n < 8; n++) {
            x.add(n, 8);
        }
        for (int none : Wrong.NONTERMINALS) {
            Check.due("shortest(" + none + ")", Check.NONE, x.shortest(none));
        }
        Check.due("shortest(0)", 1, x.shortest(0));
        Check.due("shortest(7)", 1, x.shortest(7));
    }

    // ---- promise 8

    private static void shortestWith() {
        Check.says(8, "The least length of those trees of nonterminal 0 in which a rule is used;");
        Loom x = new Loom();
        x.add(0, 8, 1);
        x.add(0, 9);
        x.add(1, 0, 1);
        x.add(1);
        x.add(1, 2, 2, 10);
        x.add(2, 11, 11);
        x.add(2, 11);
        int[] due = {1, 1, 2, 1, 4, 5, 4};
        for (int rule = 0; rule < 7; rule++) {
            Check.due("shortestWith(" + rule + ")", due[rule], x.shortestWith(rule));
        }
        x.add(0, 0);
        Check.due("a circle does not matter", 1, x.shortestWith(7));
        Check.due("a circle does not matter", 5, x.shortestWith(5));
        x.add(0, 8, 8, 8, 8, 8, 8);
        Check.due("the longer of two of 0", 6, x.shortestWith(8));
    }

    private static void shortestWithIsZero() {
        Check.says(8, "The least length");
        Loom x = new Loom();
        x.add(0, 1, 2);
        x.rule(1);
        x.rule(2);
        x.add(2, 2, 2);
        x.add(1, 8);
        int[] due = {0, 0, 0, 0, 1};
        for (int rule = 0; rule < 5; rule++) {
            Check.due("shortestWith(" + rule + ")", due[rule], x.shortestWith(rule));
        }
    }

    /** Each way down has five long ones beside it. */
    private static void shortestWithOfAll() {
        Check.says(8, "The least length of those trees of nonterminal 0 in which a rule is used;");
        Loom x = new Loom();
        for (int left = 6; left >= 0; left--) {
            x.add(left, left + 1, left + 1, left + 1, left + 1, left + 1, left + 1);
        }
        x.add(7, 8, 8, 8, 8, 8, 8);
        int other = x.add(7, 7, 7, 7, 7, 7, 7);
        Check.due("with the ordinary rule", 1679616, x.shortestWith(7));
        Check.due("with the other rule", 1679616 + 30, x.shortestWith(other));
    }

    /** The way to the rule goes up and down the numbers of the nonterminals. */
    private static void waysToTheRule() {
        Check.says(8, "The least length of those trees of nonterminal 0 in which a rule is used;");
        Loom x = new Loom();
        x.add(1, 7);
        x.add(7);
        x.add(5, 1, 8);
        x.add(3, 5, 8);
        x.add(6, 8, 3);
        x.add(2, 8, 6);
        x.add(4, 2, 8);
        x.add(0, 4, 8);
        x.add(0, 9);
        int[] byTheLongWay = {6, 6, 6, 6, 6, 6, 6, 6, 1};
        for (int rule = 0; rule < byTheLongWay.length; rule++) {
            Check.due("by the long way: shortestWith(" + rule + ")", byTheLongWay[rule], x.shortestWith(rule));
        }
        x.add(0, 8, 8, 3);
        int[] byTheShortWay = {4, 4, 4, 4, 6, 6, 6, 6, 1, 4};
        for (int rule = 0; rule < byTheShortWay.length; rule++) {
            Check.due("by the short way: shortestWith(" + rule + ")", byTheShortWay[rule], x.shortestWith(rule));
        }
    }

    private static void noTreeWith() {
        Check.says(8, "NONE if there is none,");
        Loom x = new Loom();
        x.add(0, 8);
        x.add(0, 1);
        x.add(2, 8);
        x.add(0, 3, 4);
        x.add(3, 8);
        x.add(0, 8, 0, 4);
        Check.due("its tree is not there", Check.NONE, x.shortestWith(1));
        Check.due("not in trees of 0", Check.NONE, x.shortestWith(2));
        Check.due("one behind it has no tree", Check.NONE, x.shortestWith(3));
        Check.due("only in a rule that cannot be used", Check.NONE, x.shortestWith(4));
        Check.due("with itself and one without a tree", Check.NONE, x.shortestWith(5));
        Check.due("the one that can be used", 1, x.shortestWith(0));
        Loom y = new Loom();
        y.add(0, 8, 0);
        y.add(1, 8);
        y.add(0, 1, 0);
        Check.due("no tree of 0", Check.NONE, y.shortestWith(0));
        Check.due("no tree of 0, another's rule", Check.NONE, y.shortestWith(1));
        Check.due("no tree of 0, a rule with both", Check.NONE, y.shortestWith(2));
        y.rule(0);
        Check.due("a tree of 0", 1, y.shortestWith(1));
    }

    /** Nonterminal 0 has trees, and terminals stand around the place where the rule would be used. */
    private static void noTreeWithFurtherDown() {
        Check.says(8, "NONE if there is none,");
        Loom x = new Loom();
        x.add(0, 8, 1, 8);
        x.add(1, 2);
        x.add(1, 9);
        x.add(1, 3, 2);
        x.add(1, 2, 3);
        x.add(3, 8);
        int[] due = {3, Check.NONE, 3, Check.NONE, Check.NONE, Check.NONE};
        for (int rule = 0; rule < due.length; rule++) {
            Check.due("shortestWith(" + rule + ")", due[rule], x.shortestWith(rule));
        }
        x.rule(2);
        int[] dueWithEmpty = {2, 2, 3, 3, 3, 3, 2};
        for (int rule = 0; rule < dueWithEmpty.length; rule++) {
            Check.due("with an empty rule: shortestWith(" + rule + ")", dueWithEmpty[rule], x.shortestWith(rule));
        }
    }

    /** A right side ends with its last symbol, whatever stood or stands behind it. */
    private static void noTreeWithWhatStandsBehind() {
        Check.says(8, "NONE if there is none,");
        Loom x = new Loom();
        x.add(0, 8, 8, 8, 8, 8, 8);
        x.add(4, 3);
        x.add(3, 8);
        x.add(0, 4, 4, 3, 3);
        x.add(0, 9);
        Check.due("used by rule 3", 4, x.shortestWith(1));
        x.drop(3);
        Check.due("the next rule's symbol", Check.NONE, x.shortestWith(1));
        Check.due("the next rule's symbol", Check.NONE, x.shortestWith(2));
        Check.due("the last rule", 1, x.shortestWith(3));
    }

    private static void shortestWithNoRule() {
        Check.says(8, "or no such rule.");
        Loom x = new Loom();
        for (int none : Wrong.places(0)) {
            Check.due("of no rules: shortestWith(" + none + ")", Check.NONE, x.shortestWith(none));
        }
        x.add(0, 8);
        x.add(0, 9, 9);
        for (int none : Wrong.places(2)) {
            Check.due("of two: shortestWith(" + none + ")", Check.NONE, x.shortestWith(none));
        }
        Check.due("of two: the last", 2, x.shortestWith(1));
        x.drop(0);
        Check.due("of one: shortestWith(1)", Check.NONE, x.shortestWith(1));
        Check.due("of one: shortestWith(0)", 2, x.shortestWith(0));
        x.addTimes(23, 0, 8);
        Check.due("of 24: shortestWith(23)", 1, x.shortestWith(23));
        Check.due("of 24: shortestWith(24)", Check.NONE, x.shortestWith(24));
    }

    // ---- promise 9

    private static void dueCircle(String of, boolean want, int[]... rules) {
        Loom x = new Loom();
        for (int[] rule : rules) {
            for (int i = 1; i < rule.length; i++) {
                x.symbol(rule[i]);
            }
            x.rule(rule[0]);
        }
        Check.due("circle: " + of, want, x.circle());
        Check.due("trees with a circle: " + of, want, x.trees(0, 3) == Check.NONE);
    }

    private static void circleOfOneStep() {
        Check.says(9, "Whether there is a circle.");
        dueCircle("no rules", false);
        dueCircle("itself", true, new int[] {0, 0}, new int[] {0, 8});
        dueCircle("itself, not nonterminal 0", true, new int[] {7, 7}, new int[] {7, 8}, new int[] {0, 8});
        dueCircle("a terminal beside", false, new int[] {0, 0, 8}, new int[] {0, 8, 0}, new int[] {0, 9});
        dueCircle("twice itself, not empty", false, new int[] {0, 0, 0}, new int[] {0, 8});
        dueCircle("twice itself, empty", true, new int[] {0, 0, 0}, new int[] {0});
        dueCircle("one step to another", false, new int[] {0, 1}, new int[] {1, 8});
    }

    private static void circleOfSeveralSteps() {
        Check.says(9, "Whether there is a circle.");
        dueCircle("two steps", true, new int[] {0, 1}, new int[] {1, 0}, new int[] {1, 8});
        dueCircle("three steps", true, new int[] {3, 5}, new int[] {5, 4}, new int[] {4, 3}, new int[] {4, 8});
        dueCircle("three steps, one with a terminal", false,
                new int[] {3, 5}, new int[] {5, 4, 8}, new int[] {4, 3}, new int[] {4, 8});
        dueCircle("two ways to one", false,
                new int[] {0, 1}, new int[] {0, 2}, new int[] {1, 3}, new int[] {2, 3}, new int[] {3, 8});
    }

    private static void circleBesideEmptyOnes() {
        Check.says(9, "Whether there is a circle.");
        dueCircle("an empty one beside", true, new int[] {0, 1, 0}, new int[] {1}, new int[] {0, 8});
        dueCircle("an empty one behind", true, new int[] {0, 0, 1}, new int[] {1}, new int[] {0, 8});
        dueCircle("empty ones on both sides", true,
                new int[] {0, 1, 2, 0, 1, 1, 2}, new int[] {1, 2, 2}, new int[] {2}, new int[] {0, 8});
        dueCircle("one of them not empty", false,
                new int[] {0, 1, 2, 0, 1, 1, 2}, new int[] {1}, new int[] {2, 8}, new int[] {0, 8});
        dueCircle("to the one that is not empty", true,
                new int[] {0, 1, 2}, new int[] {2, 0}, new int[] {1}, new int[] {0, 8});
        dueCircle("not to the empty one beside it", false,
                new int[] {0, 1, 2}, new int[] {1, 0, 8}, new int[] {1}, new int[] {2, 9});
    }

    private static void circleWithoutTrees() {
        Check.says(9, "Whether there is a circle.");
        dueCircle("without a tree", true, new int[] {4, 4});
        dueCircle("two without a tree", true, new int[] {5, 6}, new int[] {6, 5});
        dueCircle("one without a tree beside is not empty", false, new int[] {0, 0, 1}, new int[] {0, 8});
        dueCircle("one without rules", false, new int[] {0, 1}, new int[] {0, 8});
    }

    private static void circleWhenRulesChange() {
        Check.says(9, "Whether there is a circle.");
        Loom x = new Loom();
        for (int left = 0; left < 7; left++) {
            x.add(left, left + 1);
        }
        x.add(7, 8);
        Check.due("a chain", false, x.circle());
        Check.due("trees down the chain", 1, x.trees(0, 1));
        x.add(7, 0);
        Check.due("its end led to its start", true, x.circle());
        x.drop(3);
        Check.due("the chain cut", false, x.circle());
        x.add(3, 4, 4);
        Check.due("the cut filled with two", false, x.circle());
        x.rule(4);
        Check.due("and these empty", true, x.circle());
    }
}
