/** Promises 10 and 11: trees, treesWith. */
public final class CountsTest {
    private static final long MOST = 1000000000000000000L;
    private static final int[] NO_LENGTHS = {-1, 17, 18, Integer.MIN_VALUE, Integer.MAX_VALUE};
    private static final int[] NO_NONTERMINALS = {-1, 8, 23, Integer.MIN_VALUE, Integer.MAX_VALUE};

    public static void main(String[] args) {
        promise10Pairs();
        promise10SameRuleTwice();
        promise10EmptyOnes();
        promise10LaterNumbersFirst();
        promise10TooMany();
        promise10TooManyOfEachRule();
        promise10TooManyTimesNone();
        promise10None();
        promise11TreesWith();
        promise11WhenRulesChange();
        promise11TooMany();
        promise11None();
        Check.end();
    }

    /** As many trees of length n + 1 as Catalan's number n. */
    private static void promise10Pairs() {
        GrammarLoom x = new GrammarLoom();
        Check.rule(x, 0, 0, 0);
        Check.rule(x, 0, 8);
        long[] catalan = {1, 1, 2, 5, 14, 42, 132, 429, 1430, 4862, 16796, 58786, 208012, 742900, 2674440, 9694845};
        Check.due("pairs: trees(0, 0)", 0, x.trees(0, 0));
        for (int n = 0; n < 16; n++) {
            Check.due("pairs: trees(0, " + (n + 1) + ")", catalan[n], x.trees(0, n + 1));
        }
        Check.due("pairs, asked again: trees(0, 5)", 14, x.trees(0, 5));
        Check.rule(x, 0, 9);
        Check.due("pairs of two: trees(0, 5)", 14 * 32, x.trees(0, 5));
        Check.due("pairs of two: trees(0, 16)", 9694845L * 65536, x.trees(0, 16));
    }

    private static void promise10SameRuleTwice() {
        GrammarLoom x = new GrammarLoom();
        Check.rule(x, 0, 1, 8);
        Check.rule(x, 1, 9);
        Check.rule(x, 1, 9);
        Check.rule(x, 1, 9);
        Check.due("the same rule three times", 3, x.trees(0, 2));
    }

    private static void promise10EmptyOnes() {
        GrammarLoom x = new GrammarLoom();
        Check.rule(x, 0, 1, 1, 1);
        Check.rule(x, 1);
        Check.rule(x, 1, 8);
        Check.rule(x, 2, 0, 0);
        Check.rule(x, 3, 8, 3, 9, 2);
        Check.rule(x, 3);
        long[] of0 = {1, 3, 3, 1, 0};
        long[] of2 = {1, 6, 15, 20, 15, 6, 1, 0};
        long[] of3 = {1, 0, 1, 6, 16, 32};
        for (int n = 0; n < of0.length; n++) {
            Check.due("empty ones: trees(0, " + n + ")", of0[n], x.trees(0, n));
        }
        for (int n = 0; n < of2.length; n++) {
            Check.due("empty ones: trees(2, " + n + ")", of2[n], x.trees(2, n));
        }
        for (int n = 0; n < of3.length; n++) {
            Check.due("empty ones: trees(3, " + n + ")", of3[n], x.trees(3, n));
        }
    }

    /** What a nonterminal leads to has a higher number here, a lower one there. */
    private static void promise10LaterNumbersFirst() {
        for (int step = 1; step < 8; step += 2) {
            GrammarLoom x = new GrammarLoom();
            for (int i = 0; i < 7; i++) {
                Check.rule(x, i * step % 8, (i + 1) * step % 8);
                Check.rule(x, i * step % 8, 8, 0);
            }
            Check.rule(x, 7 * step % 8, 9);
            Check.due("steps of " + step + ": trees(0, 1)", 1, x.trees(0, 1));
            Check.due("steps of " + step + ": trees(0, 2)", 7, x.trees(0, 2));
            Check.due("steps of " + step + ": trees(0, 5)", 2401, x.trees(0, 5));
        }
    }

    private static void promise10TooMany() {
        GrammarLoom x = Grammars.most();
        Check.due("10^18", MOST, x.trees(0, 0));
        int empty = Check.rule(x, 0);
        Check.due("10^18 + 1", Check.TOO_MANY, x.trees(0, 0));
        x.drop(empty);
        Check.rule(x, 3, 0, 8);
        Check.due("10^18 in another", MOST, x.trees(3, 1));
        Check.rule(x, 3, 8);
        Check.due("10^18 + 1 in another", Check.TOO_MANY, x.trees(3, 1));
        Check.rule(x, 4, 0, 0, 0, 0, 0, 0);
        Check.due("10^108", Check.TOO_MANY, x.trees(4, 0));
        Check.rule(x, 5, 4, 4, 4, 4, 4, 4);
        Check.due("10^648", Check.TOO_MANY, x.trees(5, 0));
        Check.rule(x, 2);
        Check.due("11^18", Check.TOO_MANY, x.trees(0, 0));
        Check.due("11^6", 1771561, x.trees(1, 0));
    }

    /** The sum of the rules' trees is more than a long holds. */
    private static void promise10TooManyOfEachRule() {
        GrammarLoom x = Grammars.most();
        for (int i = 0; i < 12; i++) {
            Check.rule(x, 3, 0, 8);
        }
        Check.due("12 * 10^18", Check.TOO_MANY, x.trees(3, 1));
    }

    private static void promise10TooManyTimesNone() {
        GrammarLoom x = Grammars.most();
        Check.rule(x, 3, 0, 0, 4);
        Check.rule(x, 3, 4, 0, 0);
        Check.due("10^36 and no tree", 0, x.trees(3, 0));
        Check.rule(x, 4, 8);
        Check.due("10^36 of another length", 0, x.trees(3, 0));
        Check.due("10^36", Check.TOO_MANY, x.trees(3, 1));
        Check.due("10^36 of another length", 0, x.trees(3, 2));
    }

    private static void promise10None() {
        GrammarLoom x = new GrammarLoom();
        Check.rule(x, 0, 8, 0);
        Check.rule(x, 0);
        for (int none : NO_LENGTHS) {
            Check.due("trees(0, " + none + ")", Check.NONE, x.trees(0, none));
        }
        for (int none : NO_NONTERMINALS) {
            Check.due("trees(" + none + ", 1)", Check.NONE, x.trees(none, 1));
        }
        Check.due("length 0", 1, x.trees(0, 0));
        Check.due("length 16", 1, x.trees(0, 16));
        Check.due("no rules", 0, x.trees(7, 3));
        Check.rule(x, 6, 6);
        Check.due("a circle elsewhere", Check.NONE, x.trees(0, 1));
        x.drop(2);
        Check.due("no circle any more", 1, x.trees(0, 1));
    }

    private static void promise11TreesWith() {
        GrammarLoom x = new GrammarLoom();
        Check.rule(x, 0, 0, 0);
        Check.rule(x, 0, 8);
        Check.rule(x, 0, 9);
        Check.rule(x, 1, 8);
        Check.rule(x, 0, 1, 2);
        Check.due("pairs: treesWith(0, 1)", 0, x.treesWith(0, 1));
        Check.due("pairs: treesWith(0, 2)", 4, x.treesWith(0, 2));
        Check.due("pairs: treesWith(1, 1)", 1, x.treesWith(1, 1));
        Check.due("pairs: treesWith(1, 3)", 2 * 7, x.treesWith(1, 3));
        Check.due("pairs: treesWith(2, 3)", 2 * 7, x.treesWith(2, 3));
        Check.due("pairs: treesWith(1, 4)", 5 * 15, x.treesWith(1, 4));
        Check.due("pairs: treesWith(2, 16)", 9694845L * 65535, x.treesWith(2, 16));
        Check.due("pairs: treesWith(2, 2)", 3, x.treesWith(2, 2));
        Check.due("pairs: trees(0, 2)", 4, x.trees(0, 2));
        Check.due("a rule not in trees of 0", 0, x.treesWith(3, 1));
        Check.due("a rule that no tree uses", 0, x.treesWith(4, 2));
        Check.rule(x, 2);
        Check.due("that rule used now", 1, x.treesWith(4, 1));
        Check.due("the rule that it uses", 1, x.treesWith(3, 1));
        Check.due("the new rule", 1, x.treesWith(5, 1));
        Check.due("length 0", 0, x.treesWith(5, 0));
    }

    private static void promise11WhenRulesChange() {
        GrammarLoom x = new GrammarLoom();
        Check.rule(x, 0, 0, 0);
        Check.rule(x, 0, 8);
        Check.rule(x, 0, 9);
        Check.due("of two: treesWith(2, 2)", 3, x.treesWith(2, 2));
        Check.rule(x, 0, 10);
        Check.due("of three: treesWith(2, 2)", 5, x.treesWith(2, 2));
        x.drop(1);
        Check.due("of the two behind: treesWith(2, 2)", 3, x.treesWith(2, 2));
        x.drop(1);
        Check.due("of one: treesWith(1, 2)", 1, x.treesWith(1, 2));
        Check.due("no rule 2", Check.NONE, x.treesWith(2, 2));
    }

    private static void promise11TooMany() {
        GrammarLoom x = Grammars.most();
        Check.due("10^18 with it", MOST, x.treesWith(0, 0));
        Check.due("all but 9^18", MOST - 150094635296999121L, x.treesWith(5, 0));
        int empty = Check.rule(x, 0);
        Check.due("one with it, 10^18 without it", Check.TOO_MANY, x.treesWith(empty, 0));
        int other = Check.rule(x, 3, 8);
        Check.due("none with it, 10^18 + 1 without it", Check.TOO_MANY, x.treesWith(other, 0));
        Check.due("another length", 0, x.treesWith(other, 1));
        x.drop(0);
        Check.due("one with it, none without it", 1, x.treesWith(empty - 1, 0));
    }

    private static void promise11None() {
        GrammarLoom x = new GrammarLoom();
        Check.rule(x, 0, 8, 0);
        Check.rule(x, 0);
        for (int none : NO_LENGTHS) {
            Check.due("treesWith(0, " + none + ")", Check.NONE, x.treesWith(0, none));
        }
        int[] noRules = {-1, 2, 24, Integer.MIN_VALUE, Integer.MAX_VALUE};
        for (int none : noRules) {
            Check.due("treesWith(" + none + ", 1)", Check.NONE, x.treesWith(none, 1));
        }
        Check.due("length 0", 0, x.treesWith(0, 0));
        Check.due("length 16", 1, x.treesWith(0, 16));
        Check.rule(x, 6, 6);
        Check.due("a circle elsewhere", Check.NONE, x.treesWith(0, 1));
        Check.due("the rule of the circle", Check.NONE, x.treesWith(2, 1));
        x.drop(2);
        Check.due("no circle any more", 1, x.treesWith(0, 1));
    }
}
