/** Compares answers with those that are due, and builds grammars for the tests. */
final class Check {
    static final int NONE = -1;
    static final int TOO_MANY = -2;

    private static int asked = 0;
    private static int wrong = 0;

    private Check() {
    }

    static void due(String call, long want, long got) {
        asked++;
        if (got != want) {
            wrong++;
            System.out.println(call + " answered " + got + ", due is " + want);
        }
    }

    static void due(String call, boolean want, boolean got) {
        due(call, want ? 1 : 0, got ? 1 : 0);
    }

    /** Ends the test: with exit code 1 if an answer was wrong, or none was asked for. */
    static void end() {
        System.out.println(asked + " answers, " + wrong + " wrong");
        if (wrong != 0 || asked == 0) {
            System.exit(1);
        }
    }

    /** A new rule: its number. */
    static int rule(GrammarLoom x, int left, int... right) {
        for (int symbol : right) {
            x.symbol(symbol);
        }
        return x.rule(left);
    }

    static long number(GrammarLoom x, int nonterminal, int... row) {
        for (int rule : row) {
            x.list(rule);
        }
        return x.number(nonterminal);
    }

    static void dueRow(String when, GrammarLoom x, int... row) {
        for (int i = 0; i < row.length; i++) {
            due(when + ": row(" + i + ")", row[i], x.row(i));
        }
        due(when + ": row(" + row.length + ")", NONE, x.row(row.length));
    }

    static void dueYield(String when, GrammarLoom x, int... yield) {
        for (int i = 0; i < yield.length; i++) {
            due(when + ": leaf(" + i + ")", yield[i], x.leaf(i));
        }
        due(when + ": leaf(" + yield.length + ")", NONE, x.leaf(yield.length));
    }
}
