/** Promises 10 and 11: trees, treesWith. */
public final class CountsTest {
    public static void main(String[] args) {
        run();
        Check.end();
    }

    static void run() {
        pairs();
        sameRuleTwice();
        emptyOnes();
        laterNumbersFirst();
        treesWhenRulesChange();
        noTrees();
        tooMany();
        tooManyForLong();
        tooManyOfEachRule();
        tooManyTimesNone();
        treesWithCircle();
        treesOfNoNonterminal();
        treesOfNoLength();
        treesWith();
        treesWithWhenRulesChange();
        tooManyWith();
        treesWithBesideCircle();
        treesWithNoRule();
        treesWithOfNoLength();
    }

    // ---- promise 10

    /** As many trees of length n + 1 as Catalan's number n. */
    private static void pairs() {
        Check.says(10, "How many trees of a length a nonterminal has;");
        Loom x = new Loom();
        x.add(0, 0, 0);
        x.add(0, 8);
        long[] catalan = {1, 1, 2, 5, 14, 42, 132, 429, 1430, 4862, 16796, 58786, 208012, 742900, 2674440, 9694845};
        Check.due("pairs: trees(0, 0)", 0, x.trees(0, 0));
        for (int n = 0; n < 16; n++) {
            Check.due("pairs: trees(0, " + (n + 1) + ")", catalan[n], x.trees(0, n + 1));
        }
        Check.due("pairs, asked again: trees(0, 5)", 14, x.trees(0, 5));
        x.add(0, 9);
        Check.due("pairs of two: trees(0, 5)", 14 * 32, x.trees(0, 5));
        Check.due("pairs of two: trees(0, 16)", 9694845L * 65536, x.trees(0, 16));
    }

    private static void sameRuleTwice() {
        Check.says(10, "How many trees of a length a nonterminal has;");
        Loom x = new Loom();
        x.add(0, 1, 8);
        x.addTimes(3, 1, 9);
        Check.due("the same rule three times", 3, x.trees(0, 2));
        x.addTimes(20, 1, 9);
        Check.due("of 24 rules", 23, x.trees(0, 2));
    }

    private static void dueTrees(Loom x, int nonterminal, long... trees) {
        for (int length = 0; length < trees.length; length++) {
            Check.due("trees(" + nonterminal + ", " + length + ")", trees[length], x.trees(nonterminal, length));
        }
    }

    private static void emptyOnes() {
        Check.says(10, "How many trees of a length a nonterminal has;");
        Loom x = new Loom();
        x.add(0, 1, 1, 1);
        x.add(1);
        x.add(1, 8);
        x.add(2, 0, 0);
        x.add(3, 8, 3, 9, 2);
        x.add(3);
        dueTrees(x, 0, 1, 3, 3, 1, 0);
        dueTrees(x, 2, 1, 6, 15, 20, 15, 6, 1, 0);
        dueTrees(x, 3, 1, 0, 1, 6, 16, 32);
    }

    /** What a nonterminal leads to has a higher number here, a lower one there. */
    private static void laterNumbersFirst() {
        Check.says(10, "How many trees of a length a nonterminal has;");
        for (int step = 1; step < 8; step += 2) {
            Loom x = new Loom();
            for (int i = 0; i < 7; i++) {
                x.add(i * step % 8, (i + 1) * step % 8);
                x.add(i * step % 8, 8, 0);
            }
            x.add(7 * step % 8, 9);
            Check.due("steps of " + step + ": trees(0, 1)", 1, x.trees(0, 1));
            Check.due("steps of " + step + ": trees(0, 2)", 7, x.trees(0, 2));
            Check.due("steps of " + step + ": trees(0, 5)", 2401, x.trees(0, 5));
        }
    }

    /** Nothing of what was counted before stays, however long it was. */
    private static void treesWhenRulesChange() {
        Check.says(10, "How many trees of a length a nonterminal has;");
        Loom x = Grammars.rowOfEights();
        x.add(1, 8, 8, 1);
        x.add(1, 9);
        for (int round = 0; round < 3; round++) {
            Check.due("the longest: trees(0, 16)", 1, x.trees(0, 16));
            Check.due("the longest but one: trees(1, 15)", 1, x.trees(1, 15));
            x.add(2, 8);
            Check.due("with a rule more: trees(0, 0)", 1, x.trees(0, 0));
            Check.due("with a rule more: trees(1, 0)", 0, x.trees(1, 0));
            Check.due("with a rule more: trees(1, 1)", 1, x.trees(1, 1));
            Check.due("with a rule more: treesWith(0, 0)", 0, x.treesWith(0, 0));
            Check.due("with a rule more: treesWith(0, 16)", 1, x.treesWith(0, 16));
        }
        x.drop(1);
        dueTrees(x, 0, 0, 0, 0);
        Check.due("without the short one: trees(0, 16)", 0, x.trees(0, 16));
        x.drop(0);
        dueTrees(x, 0, 0, 0, 0);
        dueTrees(x, 1, 0, 1, 0, 1, 0, 1);
    }

    private static void noTrees() {
        Check.says(10, "How many trees");
        Loom x = new Loom();
        x.add(0, 8, 0);
        x.add(1, 8, 8);
        dueTrees(x, 0, 0, 0, 0);
        dueTrees(x, 1, 0, 0, 1, 0);
        dueTrees(x, 7, 0, 0);
        for (int n = 0; n < 8; n++) {
            Check.due("trees(" + n + ", 16)", 0, x.trees(n, 16));
        }
        Check.due("of a long one: trees(0, 16)", 0, Grammars.sixfold(8).trees(0, 16));
    }

    private static void tooMany() {
        Check.says(10, "TOO_MANY if it is more than 1000000000000000000;");
        Loom x = Grammars.most();
        Check.due("10^18", Grammars.MOST, x.trees(0, 0));
        int empty = x.rule(0);
        Check.due("10^18 + 1", Check.TOO_MANY, x.trees(0, 0));
        Check.due("10^6", 1000000, x.trees(1, 0));
        x.drop(empty);
        x.add(3, 0, 8);
        Check.due("10^18 in another", Grammars.MOST, x.trees(3, 1));
        x.add(3, 8);
        Check.due("10^18 + 1 in another", Check.TOO_MANY, x.trees(3, 1));
        Check.due("another length", 0, x.trees(3, 0));
        x.drop(11);
        x.add(2, 8);
        Check.due("9^18", 150094635296999121L, x.trees(0, 0));
        Check.due("18 * 9^17", 18 * 16677181699666569L, x.trees(0, 1));
        x.rule(2);
        Check.due("18 * 10^17", Check.TOO_MANY, x.trees(0, 1));
        Check.due("10^18 again", Grammars.MOST, x.trees(0, 0));
        x.rule(2);
        Check.due("11^18", Check.TOO_MANY, x.trees(0, 0));
        Check.due("11^6", 1771561, x.trees(1, 0));
    }

    /** Counts that a long would tell wrongly: 2^63, 2^64 and more. */
    private static void tooManyForLong() {
        Check.says(10, "TOO_MANY if it is more than 1000000000000000000;");
        Loom x = new Loom();
        x.addTimes(2, 0);
        x.add(1, 0, 0, 0, 0, 0);
        x.add(2, 1, 1, 1, 1, 1, 1);
        Check.due("2^30", 1L << 30, x.trees(2, 0));
        x.add(3, 2, 0, 1, 1, 1, 1);
        x.add(4, 3, 1, 0, 0, 0);
        Check.due("2^51", 1L << 51, x.trees(3, 0));
        Check.due("2^59", 1L << 59, x.trees(4, 0));
        x.add(5, 4, 0);
        Check.due("2^60", Check.TOO_MANY, x.trees(5, 0));
        x.add(6, 4, 0, 0, 0, 0);
        Check.due("2^63", Check.TOO_MANY, x.trees(6, 0));
        x.add(7, 4, 1);
        Check.due("2^64", Check.TOO_MANY, x.trees(7, 0));
        x.drop(x.count(0) - 1);
        x.add(7, 6, 0);
        Check.due("2^64 of 2^63", Check.TOO_MANY, x.trees(7, 0));
        x.rule(7);
        Check.due("2^64 + 1", Check.TOO_MANY, x.trees(7, 0));
        x.add(7, 4, 4, 4, 4, 4, 4);
        Check.due("2^354 and more", Check.TOO_MANY, x.trees(7, 0));
    }

    /** The sum of the rules' trees is more than a long holds. */
    private static void tooManyOfEachRule() {
        Check.says(10, "TOO_MANY if it is more than 1000000000000000000;");
        Loom x = Grammars.most();
        x.addTimes(12, 3, 0, 8);
        Check.due("12 * 10^18", Check.TOO_MANY, x.trees(3, 1));
        Loom y = Grammars.most();
        y.add(3, 0, 8);
        y.add(4, 3, 3, 3, 3, 3, 3);
        y.add(5, 4, 4);
        Check.due("10^108", Check.TOO_MANY, y.trees(4, 6));
        Check.due("10^216", Check.TOO_MANY, y.trees(5, 12));
        Check.due("another length", 0, y.trees(5, 11));
    }

    private static void tooManyTimesNone() {
        Check.says(10, "TOO_MANY if it is more than 1000000000000000000;");
        Loom x = Grammars.most();
        x.add(3, 0, 0, 4);
        x.add(3, 4, 0, 0);
        Check.due("10^36 and no tree", 0, x.trees(3, 0));
        x.add(4, 8);
        Check.due("10^36 of another length", 0, x.trees(3, 0));
        Check.due("10^36", Check.TOO_MANY, x.trees(3, 1));
        Check.due("10^36 of another length", 0, x.trees(3, 2));
    }

    private static void treesWithCircle() {
        Check.says(10, "NONE if there is a circle,");
        Loom x = Grammars.rowOfEights();
        x.add(6, 6);
        for (int n = 0; n < 8; n++) {
            Check.due("trees(" + n + ", 0)", Check.NONE, x.trees(n, 0));
            Check.due("trees(" + n + ", 16)", Check.NONE, x.trees(n, 16));
        }
        x.drop(2);
        Check.due("no circle any more", 1, x.trees(0, 1));
        Loom y = Grammars.most();
        y.rule(0);
        y.add(0, 0);
        Check.due("a circle among too many", Check.NONE, y.trees(0, 0));
    }

    private static void treesOfNoNonterminal() {
        Check.says(10, "it is no nonterminal,");
        Loom x = new Loom();
        for (int n = 0; n < 8; n++) {
            x.add(n, 8);
        }
        for (int none : Wrong.NONTERMINALS) {
            Check.due("trees(" + none + ", 1)", Check.NONE, x.trees(none, 1));
            Check.due("trees(" + none + ", 0)", Check.NONE, x.trees(none, 0));
        }
        for (int n = 0; n < 8; n++) {
            Check.due("trees(" + n + ", 1)", 1, x.trees(n, 1));
        }
    }

    private static void treesOfNoLength() {
        Check.says(10, "or the length is not 0 .. 16.");
        Loom x = Grammars.rowOfEights();
        for (int none : Wrong.LENGTHS) {
            Check.due("trees(0, " + none + ")", Check.NONE, x.trees(0, none));
            Check.due("trees(7, " + none + ")", Check.NONE, x.trees(7, none));
        }
        for (int length = 16; length >= 0; length--) {
            Check.due("trees(0, " + length + ")", 1, x.trees(0, length));
        }
        Check.due("17 behind 16", Check.NONE, x.trees(0, 17));
        Check.due("no nonterminal and no length", Check.NONE, x.trees(8, 17));
    }

    // ---- promise 11

    private static void treesWith() {
        Check.says(11, "How many of nonterminal 0's trees of a length use a rule;");
        Loom x = Grammars.pairs();
        x.add(1, 8);
        x.add(0, 1, 2);
        Check.due("pairs: treesWith(0, 1)", 0, x.treesWith(0, 1));
        Check.due("pairs: treesWith(0, 2)", 4, x.treesWith(0, 2));
        Check.due("pairs: treesWith(1, 1)", 1, x.treesWith(1, 1));
        Check.due("pairs: treesWith(1, 3)", 2 * 7, x.treesWith(1, 3));
        Check.due("pairs: treesWith(2, 3)", 2 * 7, x.treesWith(2, 3));
        Check.due("pairs: treesWith(1, 4)", 5 * 15, x.treesWith(1, 4));
        Check.due("pairs: treesWith(2, 16)", 9694845L * 65535, x.treesWith(2, 16));
        Check.due("pairs: treesWith(2, 2)", 3, x.treesWith(2, 2));
        Check.due("pairs: trees(0, 2)", 4, x.trees(0, 2));
        Check.due("a rule not in trees of 0", 0, x.treesWith(3, 1));
        Check.due("a rule that no tree uses", 0, x.treesWith(4, 2));
        x.add(2);
        Check.due("that rule used now", 1, x.treesWith(4, 1));
        Check.due("the rule that it uses", 1, x.treesWith(3, 1));
        Check.due("the new rule", 1, x.treesWith(5, 1));
        Check.due("length 0", 0, x.treesWith(5, 0));
    }

    private static void treesWithWhenRulesChange() {
        Check.says(11, "How many of nonterminal 0's trees of a length use a rule;");
        Loom x = Grammars.pairs();
        Check.due("of two: treesWith(2, 2)", 3, x.treesWith(2, 2));
        x.add(0, 10);
        Check.due("of three: treesWith(2, 2)", 5, x.treesWith(2, 2));
        x.drop(1);
        Check.due("of the two behind: treesWith(2, 2)", 3, x.treesWith(2, 2));
        x.drop(1);
        Check.due("of one: treesWith(1, 2)", 1, x.treesWith(1, 2));
    }

    private static void tooManyWith() {
        Check.says(11, "TOO_MANY if there are, with and without it, more than 1000000000000000000;");
        Loom x = Grammars.most();
        Check.due("10^18 with it", Grammars.MOST, x.treesWith(0, 0));
        Check.due("all but 9^18", Grammars.MOST - 150094635296999121L, x.treesWith(5, 0));
        int other = x.add(3, 8);
        Check.due("none with it, 10^18 without it", 0, x.treesWith(other, 0));
        int empty = x.rule(0);
        Check.due("one with it, 10^18 without it", Check.TOO_MANY, x.treesWith(empty, 0));
        Check.due("10^18 with it, one without it", Check.TOO_MANY, x.treesWith(0, 0));
        Check.due("none with it, 10^18 + 1 without it", Check.TOO_MANY, x.treesWith(other, 0));
        Check.due("another length", 0, x.treesWith(other, 1));
        x.drop(0);
        Check.due("one with it, none without it", 1, x.treesWith(empty - 1, 0));
        Loom y = new Loom();
        y.addTimes(22, 1);
        y.add(0, 1, 1, 1, 1, 1, 1);
        y.add(2, 0, 0, 0);
        Check.due("too many of another nonterminal", Check.TOO_MANY, y.trees(2, 0));
        Check.due("22^6 with it", 113379904L, y.treesWith(22, 0));
        Check.due("22^6 less 21^6", 113379904L - 85766121L, y.treesWith(0, 0));
    }

    private static void treesWithBesideCircle() {
        Check.says(11, "NONE if there is a circle,");
        Loom x = Grammars.rowOfEights();
        x.add(6, 6);
        for (int rule = 0; rule < 3; rule++) {
            Check.due("treesWith(" + rule + ", 0)", Check.NONE, x.treesWith(rule, 0));
            Check.due("treesWith(" + rule + ", 16)", Check.NONE, x.treesWith(rule, 16));
        }
        x.drop(2);
        Check.due("no circle any more", 1, x.treesWith(0, 1));
        Loom y = Grammars.most();
        y.rule(0);
        y.add(7, 7);
        Check.due("a circle beside too many", Check.NONE, y.treesWith(0, 0));
    }

    private static void treesWithNoRule() {
        Check.says(11, "no such rule,");
        Loom x = new Loom();
        for (int none : Wrong.places(0)) {
            Check.due("of no rules: treesWith(" + none + ", 0)", Check.NONE, x.treesWith(none, 0));
        }
        x.add(0, 8);
        x.add(0, 9);
        for (int none : Wrong.places(2)) {
            Check.due("of two: treesWith(" + none + ", 1)", Check.NONE, x.treesWith(none, 1));
        }
        Check.due("of two: the last", 1, x.treesWith(1, 1));
        x.drop(0);
        Check.due("of one: treesWith(1, 1)", Check.NONE, x.treesWith(1, 1));
        x.addTimes(23, 0, 8);
        Check.due("of 24: treesWith(23, 1)", 1, x.treesWith(23, 1));
        Check.due("of 24: treesWith(24, 1)", Check.NONE, x.treesWith(24, 1));
        Loom y = Grammars.most();
        y.rule(0);
        Check.due("no rule beside too many", Check.NONE, y.treesWith(13, 0));
        Check.due("no rule beside too many", Check.NONE, y.treesWith(-1, 0));
    }

    private static void treesWithOfNoLength() {
        Check.says(11, "or the length is not 0 .. 16.");
        Loom x = Grammars.rowOfEights();
        for (int none : Wrong.LENGTHS) {
            Check.due("treesWith(0, " + none + ")", Check.NONE, x.treesWith(0, none));
            Check.due("treesWith(1, " + none + ")", Check.NONE, x.treesWith(1, none));
        }
        Check.due("length 0, with rule 0", 0, x.treesWith(0, 0));
        Check.due("length 0, with rule 1", 1, x.treesWith(1, 0));
        Check.due("length 16, with rule 0", 1, x.treesWith(0, 16));
        Check.due("length 16, with rule 1", 1, x.treesWith(1, 16));
        Check.due("17 behind 16", Check.NONE, x.treesWith(0, 17));
    }
}
