/** Promises 7 to 9: shortest, shortestWith, circle. */
public final class LengthsTest {
    private static final int[] NO_NONTERMINALS = {-1, 8, 23, Integer.MIN_VALUE, Integer.MAX_VALUE};

    public static void main(String[] args) {
        promise7Shortest();
        promise7NoTree();
        promise7Longest(true);
        promise7Longest(false);
        promise7ShorterByDetour();
        promise8ShortestWith();
        promise8NoTreeWith();
        promise8Longest();
        promise8WaysToTheRule();
        promise9OneStep();
        promise9SeveralSteps();
        promise9EmptyOnes();
        promise9WithoutTrees();
        promise9OfAllEight();
        Check.end();
    }

    private static void promise7Shortest() {
        GrammarLoom x = new GrammarLoom();
        Check.rule(x, 0, 8, 1, 2);
        Check.rule(x, 0, 0, 0);
        Check.rule(x, 1, 9, 9, 9);
        Check.rule(x, 1, 2, 2);
        Check.rule(x, 2, 10);
        Check.due("shortest(0)", 4, x.shortest(0));
        Check.due("shortest(1)", 2, x.shortest(1));
        Check.due("shortest(2)", 1, x.shortest(2));
        Check.rule(x, 2);
        Check.due("with an empty rule: shortest(2)", 0, x.shortest(2));
        Check.due("with an empty rule: shortest(0)", 1, x.shortest(0));
        Check.rule(x, 3, 3);
        Check.rule(x, 3, 8);
        Check.due("a circle does not matter", 1, x.shortest(3));
    }

    private static void promise7NoTree() {
        GrammarLoom x = new GrammarLoom();
        Check.rule(x, 0, 8, 0);
        Check.rule(x, 1, 8, 2);
        Check.rule(x, 3, 8);
        Check.rule(x, 4, 3, 1);
        Check.due("only itself again", Check.NONE, x.shortest(0));
        Check.due("one without rules in it", Check.NONE, x.shortest(1));
        Check.due("no rules", Check.NONE, x.shortest(2));
        Check.due("a terminal", 1, x.shortest(3));
        Check.due("one without trees in it", Check.NONE, x.shortest(4));
        for (int none : NO_NONTERMINALS) {
            Check.due("shortest(" + none + ")", Check.NONE, x.shortest(none));
        }
    }

    /** Eight nonterminals, each six times the next one: the longest that a least length can be. */
    private static void promise7Longest(boolean upwards) {
        GrammarLoom x = new GrammarLoom();
        for (int i = 0; i < 8; i++) {
            int left = upwards ? i : 7 - i;
            int part = left == 7 ? 8 : left + 1;
            Check.rule(x, left, part, part, part, part, part, part);
        }
        int length = 6;
        for (int left = 7; left >= 0; left--) {
            Check.due("six times the next: shortest(" + left + ")", length, x.shortest(left));
            length *= 6;
        }
    }

    /** The first tree that is found is not the shortest one. */
    private static void promise7ShorterByDetour() {
        GrammarLoom x = new GrammarLoom();
        for (int left = 0; left < 7; left++) {
            Check.rule(x, left, 8, 8, 8, 8, 8, 8);
            Check.rule(x, left, left + 1);
        }
        Check.rule(x, 7);
        for (int left = 0; left < 8; left++) {
            Check.due("by the last one: shortest(" + left + ")", 0, x.shortest(left));
        }
    }

    private static void promise8ShortestWith() {
        GrammarLoom x = new GrammarLoom();
        Check.rule(x, 0, 8, 1);
        Check.rule(x, 0, 9);
        Check.rule(x, 1, 0, 1);
        Check.rule(x, 1);
        Check.rule(x, 1, 2, 2, 10);
        Check.rule(x, 2, 11, 11);
        Check.rule(x, 2, 11);
        Check.due("shortestWith(0)", 1, x.shortestWith(0));
        Check.due("shortestWith(1)", 1, x.shortestWith(1));
        Check.due("shortestWith(2)", 2, x.shortestWith(2));
        Check.due("shortestWith(3)", 1, x.shortestWith(3));
        Check.due("shortestWith(4)", 4, x.shortestWith(4));
        Check.due("shortestWith(5)", 5, x.shortestWith(5));
        Check.due("shortestWith(6)", 4, x.shortestWith(6));
        Check.rule(x, 0, 0);
        Check.due("a circle does not matter", 1, x.shortestWith(7));
    }

    private static void promise8NoTreeWith() {
        GrammarLoom x = new GrammarLoom();
        Check.rule(x, 0, 8);
        Check.rule(x, 0, 1);
        Check.rule(x, 2, 8);
        Check.rule(x, 0, 3, 4);
        Check.rule(x, 3, 8);
        Check.due("its tree is not there", Check.NONE, x.shortestWith(1));
        Check.due("not in trees of 0", Check.NONE, x.shortestWith(2));
        Check.due("one beside it has no tree", Check.NONE, x.shortestWith(3));
        Check.due("only in a rule that cannot be used", Check.NONE, x.shortestWith(4));
        int[] none = {-1, 5, 24, Integer.MIN_VALUE, Integer.MAX_VALUE};
        for (int rule : none) {
            Check.due("shortestWith(" + rule + ")", Check.NONE, x.shortestWith(rule));
        }
        GrammarLoom y = new GrammarLoom();
        Check.rule(y, 0, 8, 0);
        Check.rule(y, 1, 8);
        Check.due("no tree of 0", Check.NONE, y.shortestWith(0));
        Check.due("no tree of 0, another's rule", Check.NONE, y.shortestWith(1));
    }

    /** Each way down has five long ones beside it. */
    private static void promise8Longest() {
        GrammarLoom x = new GrammarLoom();
        for (int left = 6; left >= 0; left--) {
            Check.rule(x, left, left + 1, left + 1, left + 1, left + 1, left + 1, left + 1);
        }
        Check.rule(x, 7, 8, 8, 8, 8, 8, 8);
        int other = Check.rule(x, 7, 7, 7, 7, 7, 7, 7);
        Check.due("shortest with the ordinary rule", 1679616, x.shortestWith(7));
        Check.due("shortest with the other rule", 1679616 + 30, x.shortestWith(other));
    }

    /** The way to the rule goes up and down the numbers of the nonterminals. */
    private static void promise8WaysToTheRule() {
        GrammarLoom x = new GrammarLoom();
        Check.rule(x, 1, 7);
        Check.rule(x, 7);
        Check.rule(x, 5, 1, 8);
        Check.rule(x, 3, 5, 8);
        Check.rule(x, 6, 8, 3);
        Check.rule(x, 2, 8, 6);
        Check.rule(x, 4, 2, 8);
        Check.rule(x, 0, 4, 8);
        Check.rule(x, 0, 9);
        int[] byTheLongWay = {6, 6, 6, 6, 6, 6, 6, 6, 1};
        for (int rule = 0; rule < byTheLongWay.length; rule++) {
            Check.due("by the long way: shortestWith(" + rule + ")", byTheLongWay[rule], x.shortestWith(rule));
        }
        Check.rule(x, 0, 8, 8, 3);
        int[] byTheShortWay = {4, 4, 4, 4, 6, 6, 6, 6, 1, 4};
        for (int rule = 0; rule < byTheShortWay.length; rule++) {
            Check.due("by the short way: shortestWith(" + rule + ")", byTheShortWay[rule], x.shortestWith(rule));
        }
    }

    private static void dueCircle(String of, boolean want, int[]... rules) {
        GrammarLoom x = new GrammarLoom();
        for (int[] rule : rules) {
            for (int i = 1; i < rule.length; i++) {
                x.symbol(rule[i]);
            }
            x.rule(rule[0]);
        }
        Check.due("circle: " + of, want, x.circle());
        Check.due("trees with a circle: " + of, want, x.trees(0, 3) == Check.NONE);
    }

    private static void promise9OneStep() {
        dueCircle("itself", true, new int[] {0, 0}, new int[] {0, 8});
        dueCircle("itself, not nonterminal 0", true, new int[] {7, 7}, new int[] {7, 8}, new int[] {0, 8});
        dueCircle("a terminal beside", false, new int[] {0, 0, 8}, new int[] {0, 8, 0}, new int[] {0, 9});
        dueCircle("twice itself, not empty", false, new int[] {0, 0, 0}, new int[] {0, 8});
        dueCircle("twice itself, empty", true, new int[] {0, 0, 0}, new int[] {0});
        dueCircle("one step to another", false, new int[] {0, 1}, new int[] {1, 8});
    }

    private static void promise9SeveralSteps() {
        dueCircle("two steps", true, new int[] {0, 1}, new int[] {1, 0}, new int[] {1, 8});
        dueCircle("three steps", true, new int[] {3, 5}, new int[] {5, 4}, new int[] {4, 3}, new int[] {4, 8});
        dueCircle("three steps, one with a terminal", false,
                new int[] {3, 5}, new int[] {5, 4, 8}, new int[] {4, 3}, new int[] {4, 8});
        dueCircle("two ways to one", false,
                new int[] {0, 1}, new int[] {0, 2}, new int[] {1, 3}, new int[] {2, 3}, new int[] {3, 8});
    }

    private static void promise9EmptyOnes() {
        dueCircle("an empty one beside", true, new int[] {0, 1, 0}, new int[] {1}, new int[] {0, 8});
        dueCircle("an empty one behind", true, new int[] {0, 0, 1}, new int[] {1}, new int[] {0, 8});
        dueCircle("empty ones on both sides", true,
                new int[] {0, 1, 2, 0, 1, 1, 2}, new int[] {1, 2, 2}, new int[] {2}, new int[] {0, 8});
        dueCircle("one of them not empty", false,
                new int[] {0, 1, 2, 0, 1, 1, 2}, new int[] {1}, new int[] {2, 8}, new int[] {0, 8});
        dueCircle("to the one that is not empty", true,
                new int[] {0, 1, 2}, new int[] {2, 0}, new int[] {1}, new int[] {0, 8});
        dueCircle("not to the empty one beside it", false,
                new int[] {0, 1, 2}, new int[] {1, 0, 8}, new int[] {1}, new int[] {2, 9});
    }

    private static void promise9WithoutTrees() {
        dueCircle("without a tree", true, new int[] {4, 4});
        dueCircle("two without a tree", true, new int[] {5, 6}, new int[] {6, 5});
        dueCircle("one without a tree beside is not empty", false, new int[] {0, 0, 1}, new int[] {0, 8});
        dueCircle("one without rules", false, new int[] {0, 1}, new int[] {0, 8});
    }

    private static void promise9OfAllEight() {
        GrammarLoom x = new GrammarLoom();
        for (int left = 0; left < 7; left++) {
            Check.rule(x, left, left + 1);
        }
        Check.rule(x, 7, 8);
        Check.due("a chain", false, x.circle());
        Check.due("trees down the chain", 1, x.trees(0, 1));
        Check.rule(x, 7, 0);
        Check.due("its end led to its start", true, x.circle());
        x.drop(3);
        Check.due("the chain cut", false, x.circle());
    }
}
