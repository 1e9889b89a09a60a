/** Grammars at the document's limits, and small ones that several tests use. */
final class Grammars {
    /** The largest number of trees that is told. */
    static final long MOST = 1000000000000000000L;

    private Grammars() {
    }

    /** Ten empty rules of 2, rules 2 to 11, so that 1 has 10^6 trees of length 0, and 0 has 10^18. */
    static Loom most() {
        Loom x = new Loom();
        x.add(0, 1, 1, 1);
        x.add(1, 2, 2, 2, 2, 2, 2);
        return x.addTimes(10, 2);
    }

    /** The row of the tree of most() with a number: its digits are the rules of 2. */
    static int[] digits(long number) {
        int[] row = new int[22];
        long left = number;
        for (int i = 21; i >= 1; i--) {
            if (i == 1 || i == 8 || i == 15) {
                row[i] = 1;
            } else {
                row[i] = (int) (2 + left % 10);
                left /= 10;
            }
        }
        return row;
    }

    /** One tree of 0, of 196 + ends rules, without a yield. */
    static Loom hundreds(int ends) {
        Loom x = new Loom();
        x.add(0, 1, 1, 1, 1, 4, 5);
        x.add(1, 2, 2, 2, 2, 2, 2);
        x.add(2, 3, 3, 3, 3, 3, 3);
        x.add(3);
        x.add(4, 2, 2, 2);
        for (int i = 0; i < ends; i++) {
            x.symbol(3);
        }
        x.rule(5);
        return x;
    }

    /** Eight rules down for each leaf: no tree is deeper. */
    static Loom deep() {
        Loom x = new Loom();
        for (int left = 0; left < 7; left++) {
            x.add(left, left + 1);
        }
        x.add(7, 8, 0);
        x.add(7);
        return x;
    }

    /** One tree of each length: rule 0 for each terminal 8, then rule 1. */
    static Loom rowOfEights() {
        Loom x = new Loom();
        x.add(0, 8, 0);
        x.add(0);
        return x;
    }

    /** Trees by Catalan's numbers: rule 0 joins two, rules 1 and 2 are the terminals 8 and 9. */
    static Loom pairs() {
        Loom x = new Loom();
        x.add(0, 0, 0);
        x.add(0, 8);
        x.add(0, 9);
        return x;
    }

    /** Eight nonterminals, each six times the next one; the last six times the symbol. */
    static Loom sixfold(int last) {
        Loom x = new Loom();
        for (int left = 0; left < 8; left++) {
            int part = left == 7 ? last : left + 1;
            x.add(left, part, part, part, part, part, part);
        }
        return x;
    }
}
