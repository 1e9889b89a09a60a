/** Grammars at the document's limits. */
final class Grammars {
    private Grammars() {
    }

    /** Ten empty rules of 2, rules 2 to 11, so that 1 has 10^6 trees of length 0, and 0 has 10^18. */
    static GrammarLoom most() {
        GrammarLoom x = new GrammarLoom();
        Check.rule(x, 0, 1, 1, 1);
        Check.rule(x, 1, 2, 2, 2, 2, 2, 2);
        for (int i = 0; i < 10; i++) {
            Check.rule(x, 2);
        }
        return x;
    }

    /** One tree, of 196 + ends rules, without a yield. */
    static GrammarLoom hundreds(int ends) {
        GrammarLoom x = new GrammarLoom();
        Check.rule(x, 0, 1, 1, 1, 1, 4, 5);
        Check.rule(x, 1, 2, 2, 2, 2, 2, 2);
        Check.rule(x, 2, 3, 3, 3, 3, 3, 3);
        Check.rule(x, 3);
        Check.rule(x, 4, 2, 2, 2);
        for (int i = 0; i < ends; i++) {
            x.symbol(3);
        }
        x.rule(5);
        return x;
    }

    /** Eight rules down for each leaf: no tree is deeper. */
    static GrammarLoom deep() {
        GrammarLoom x = new GrammarLoom();
        for (int left = 0; left < 7; left++) {
            Check.rule(x, left, left + 1);
        }
        Check.rule(x, 7, 8, 0);
        Check.rule(x, 7);
        return x;
    }
}
