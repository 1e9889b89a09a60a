/** A GrammarLoom that counts its calls: the document promises nothing beyond the 512th. */
final class Loom {
    static final int MOST_CALLS = 512;

    private final GrammarLoom inside = new GrammarLoom();
    private int calls;

    int calls() {
        return calls;
    }

    private GrammarLoom counted() {
        calls++;
        if (calls == MOST_CALLS + 1) {
            Check.fault("the test makes more than 512 calls on one object");
        }
        return inside;
    }

    int symbol(int s) {
        return counted().symbol(s);
    }

    int rule(int left) {
        return counted().rule(left);
    }

    boolean drop(int rule) {
        return counted().drop(rule);
    }

    int count(int what) {
        return counted().count(what);
    }

    int about(int rule, int i) {
        return counted().about(rule, i);
    }

    int shortest(int nonterminal) {
        return counted().shortest(nonterminal);
    }

    int shortestWith(int rule) {
        return counted().shortestWith(rule);
    }

    boolean circle() {
        return counted().circle();
    }

    long trees(int nonterminal, int length) {
        return counted().trees(nonterminal, length);
    }

    long treesWith(int rule, int length) {
        return counted().treesWith(rule, length);
    }

    int draw(int nonterminal, int length, long number) {
        return counted().draw(nonterminal, length, number);
    }

    int row(int i) {
        return counted().row(i);
    }

    int leaf(int i) {
        return counted().leaf(i);
    }

    int list(int rule) {
        return counted().list(rule);
    }

    long number(int nonterminal) {
        return counted().number(nonterminal);
    }

    // ---- several calls at once

    /** A rule with its right side: its number. */
    int add(int left, int... right) {
        write(right);
        return rule(left);
    }

    /** The same rule several times. */
    Loom addTimes(int times, int left, int... right) {
        for (int i = 0; i < times; i++) {
            add(left, right);
        }
        return this;
    }

    void write(int... symbols) {
        for (int symbol : symbols) {
            symbol(symbol);
        }
    }

    void tell(int... rules) {
        for (int rule : rules) {
            list(rule);
        }
    }

    void tellTimes(int times, int rule) {
        for (int i = 0; i < times; i++) {
            list(rule);
        }
    }

    long numberOf(int nonterminal, int... row) {
        tell(row);
        return number(nonterminal);
    }
}
