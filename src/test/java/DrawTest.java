/** Promises 12 to 14: draw, row, leaf. */
public final class DrawTest {
    public static void main(String[] args) {
        run();
        Check.end();
    }

    static void run() {
        draw();
        drawEveryLength();
        drawLargeNumbers();
        drawDeepTree();
        drawBesideTooMany();
        drawNoNumber();
        drawWhereTreesIsNone();
        drawWhereTreesIsTooMany();
        draw200Rules();
        draw200RulesAnd16Leaves();
        drawMoreThan200Rules();
        drawThousandsOfRules();
        row();
        rowAsItWasThen();
        rowNone();
        leaf();
        leafOfRulesNoMore();
        leafNone();
    }

    // ---- promise 12

    private static void draw() {
        Check.says(12, "The tree with a number among a nonterminal's of a length is drawn: how many rules its "
                + "row has.");
        Loom x = new Loom();
        x.add(1, 9);
        x.add(0, 8, 0);
        x.add(0, 1);
        x.add(0, 10);
        Check.dueTree(x, 0, 1, 0, 2, 0);
        Check.dueYield("the first of length 1", x, 9);
        Check.dueTree(x, 0, 1, 1, 3);
        Check.dueYield("the second of length 1", x, 10);
        Check.dueTree(x, 0, 3, 0, 1, 1, 2, 0);
        Check.dueYield("the first of length 3", x, 8, 8, 9);
        Check.dueTree(x, 1, 1, 0, 0);
        Check.dueYield("of another nonterminal", x, 9);
        x.rule(7);
        Check.dueTree(x, 7, 0, 0, 4);
        Check.dueYield("of the last nonterminal", x);
    }

    private static void drawEveryLength() {
        Check.says(12, "The tree with a number among a nonterminal's of a length is drawn: how many rules its "
                + "row has.");
        Loom x = Grammars.rowOfEights();
        for (int length = 16; length >= 0; length--) {
            Check.due("draw(0, " + length + ", 0)", length + 1, x.draw(0, length, 0));
            Check.due("its last rule", 1, x.row(length));
            Check.due("behind it", Check.NONE, x.row(length + 1));
            Check.due("its last leaf", length == 0 ? Check.NONE : 8, x.leaf(length - 1));
            Check.due("behind it", Check.NONE, x.leaf(length));
        }
    }

    private static void drawLargeNumbers() {
        Check.says(12, "The tree with a number among a nonterminal's of a length is drawn: how many rules its "
                + "row has.");
        Loom x = Grammars.most();
        long[] numbers = {0, 1, 10, 4294967296L, 123456789012345678L, 987654321098765432L, Grammars.MOST - 1};
        for (long number : numbers) {
            Check.dueTree(x, 0, 0, number, Grammars.digits(number));
        }
        Check.due("number 10^18 of 10^18", Check.NONE, x.draw(0, 0, Grammars.MOST));
    }

    private static void drawDeepTree() {
        Check.says(12, "The tree with a number among a nonterminal's of a length is drawn: how many rules its "
                + "row has.");
        Loom x = Grammars.deep();
        Check.due("136 rules", 136, x.draw(0, 16, 0));
        for (int i = 0; i < 136; i++) {
            Check.due("row(" + i + ")", i == 135 ? 8 : i % 8, x.row(i));
        }
        for (int i = 0; i < 16; i++) {
            Check.due("leaf(" + i + ")", 8, x.leaf(i));
        }
        Check.due("leaf(16)", Check.NONE, x.leaf(16));
    }

    /** Parts that are too many of another length do not matter. */
    private static void drawBesideTooMany() {
        Check.says(12, "The tree with a number among a nonterminal's of a length is drawn: how many rules its "
                + "row has.");
        Loom x = Grammars.most();
        x.add(3, 4, 0, 0);
        x.add(4, 8);
        x.add(3, 9, 9);
        x.add(3, 0, 0, 5);
        Check.due("too many of length 1", Check.TOO_MANY, x.trees(3, 1));
        Check.due("one of length 2", 1, x.trees(3, 2));
        Check.dueTree(x, 3, 2, 0, 14);
        Check.dueYield("of length 2", x, 9, 9);
    }

    /** A tree that was drawn, a list and a text, all of which stay. */
    private static Loom drawn() {
        Loom x = Grammars.hundreds(5);
        x.add(6, 8, 6);
        x.add(6, 9);
        x.draw(6, 2, 0);
        x.tell(3);
        x.write(8, 10);
        return x;
    }

    private static void dueNothing(String when, Loom x, int rules) {
        Check.dueRow("the tree stays, " + when, x, 6, 7);
        Check.dueYield("the tree stays, " + when, x, 8, 9);
        Check.dueCounts("nothing happens, " + when, x, rules, 2, 1);
    }

    private static void drawNoNumber() {
        Check.says(12, "NONE, and nothing happens, if there is none such,");
        Loom x = drawn();
        for (long none : Wrong.NUMBERS) {
            Check.due("draw(6, 2, " + none + ")", Check.NONE, x.draw(6, 2, none));
        }
        Check.due("draw(6, 2, 1) of one", Check.NONE, x.draw(6, 2, 1));
        Check.due("no tree of the length", Check.NONE, x.draw(6, 0, 0));
        Check.due("no tree of the nonterminal", Check.NONE, x.draw(7, 2, 0));
        Check.due("before more than 200 rules", Check.NONE, x.draw(0, 0, 1));
        dueNothing("none such", x, 8);
        Check.due("a new rule has the text", 8, x.rule(7));
        Check.dueRule("the text stayed", x, 8, 7, 8, 10);
        Check.due("the list stayed", 0, x.number(3));
        Loom y = Grammars.pairs();
        Check.due("draw(0, 3, 15) of 16", 5, y.draw(0, 3, 15));
        Check.due("draw(0, 3, 16) of 16", Check.NONE, y.draw(0, 3, 16));
        Check.due("draw(0, 3, 17) of 16", Check.NONE, y.draw(0, 3, 17));
        Check.due("draw(0, 3, 2^32 + 1) of 16", Check.NONE, y.draw(0, 3, (1L << 32) + 1));
        Check.dueRow("the tree stays", y, 0, 0, 2, 2, 2);
    }

    private static void drawWhereTreesIsNone() {
        Check.says(12, "or trees() answers NONE");
        Loom x = drawn();
        for (int none : Wrong.NONTERMINALS) {
            Check.due("draw(" + none + ", 0, 0)", Check.NONE, x.draw(none, 0, 0));
            Check.due("draw(" + none + ", 0, -2)", Check.NONE, x.draw(none, 0, -2));
        }
        for (int none : Wrong.LENGTHS) {
            Check.due("draw(6, " + none + ", 0)", Check.NONE, x.draw(6, none, 0));
            Check.due("draw(6, " + none + ", -1)", Check.NONE, x.draw(6, none, -1));
        }
        dueNothing("no nonterminal or length", x, 8);
        x.rule(8);
        int circle = x.add(7, 7);
        x.write(8, 10);
        Check.due("a circle elsewhere", Check.NONE, x.draw(6, 2, 0));
        Check.due("a circle, and more than 200 rules", Check.NONE, x.draw(0, 0, 0));
        dueNothing("a circle", x, 9);
        x.drop(circle);
        Check.due("no circle any more", 1, x.draw(6, 1, 0));
        Check.dueRow("a shorter tree comes for a longer one", x, 7);
        Check.dueYield("a shorter tree comes for a longer one", x, 9);
    }

    private static void drawWhereTreesIsTooMany() {
        Check.says(12, "trees() answers NONE or TOO_MANY;");
        Loom x = Grammars.most();
        Check.due("of 10^18", 22, x.draw(0, 0, 7));
        x.rule(0);
        long[] numbers = {0, 1, -1, -2, Grammars.MOST - 1, Grammars.MOST, Grammars.MOST + 1, Long.MAX_VALUE};
        for (long number : numbers) {
            Check.due("of 10^18 + 1: draw(0, 0, " + number + ")", Check.NONE, x.draw(0, 0, number));
        }
        Check.dueRow("the tree stays", x, Grammars.digits(7));
        Check.due("a part of them", 7, x.draw(1, 0, 999999));
        x.add(3, 0, 0, 0, 0, 0, 0);
        x.add(4, 3, 3);
        Check.due("of too many with more than 200 rules", Check.NONE, x.draw(4, 0, 0));
        Check.due("row(0)", 1, x.row(0));
    }

    private static void draw200Rules() {
        Check.says(12, "if its row has more than 200.");
        Check.due("199 rules", 199, Grammars.hundreds(3).draw(0, 0, 0));
        Loom x = Grammars.hundreds(4);
        Check.due("200 rules", 200, x.draw(0, 0, 0));
        Check.due("row(0)", 0, x.row(0));
        Check.due("row(195)", 5, x.row(195));
        Check.due("row(199)", 3, x.row(199));
        Check.due("row(200)", Check.NONE, x.row(200));
        Check.due("no leaf", Check.NONE, x.leaf(0));
        x.drop(3);
        x.add(3, 6);
        x.add(6);
        Check.due("more than 200, the last ones each two", Check.TOO_MANY, x.draw(0, 0, 0));
        Check.due("the tree stays", 3, x.row(199));
    }

    private static void draw200RulesAnd16Leaves() {
        Check.says(12, "if its row has more than 200.");
        Loom x = Grammars.hundreds(4);
        x.drop(5);
        x.add(6, 8, 8, 8, 8, 7, 7);
        x.add(7, 9, 10, 11, 12, 13, 14);
        x.add(5, 6, 3);
        Check.due("200 rules", 200, x.draw(0, 16, 0));
        Check.dueYield("200 rules", x, 8, 8, 8, 8, 9, 10, 11, 12, 13, 14, 9, 10, 11, 12, 13, 14);
        int[] last = {7, 5, 6, 6, 3};
        for (int i = 0; i < 5; i++) {
            Check.due("row(" + (195 + i) + ")", last[i], x.row(195 + i));
        }
        x.drop(7);
        x.add(5, 6, 3, 3);
        Check.due("201 rules", Check.TOO_MANY, x.draw(0, 16, 0));
        Check.due("the tree stays: leaf(15)", 14, x.leaf(15));
        Check.due("the tree stays: row(199)", 3, x.row(199));
    }

    private static void drawMoreThan200Rules() {
        Check.says(12, "TOO_MANY, and nothing happens, if its row has more than 200.");
        Loom x = drawn();
        Check.due("201 rules", Check.TOO_MANY, x.draw(0, 0, 0));
        dueNothing("of 201 rules", x, 8);
        Check.due("a new rule has the text", 8, x.rule(7));
        Check.dueRule("the text stayed", x, 8, 7, 8, 10);
        Check.due("the list stayed", 0, x.number(3));
        x.rule(6);
        Check.due("a tree behind it", 2, x.draw(6, 1, 0));
        Check.dueRow("a tree behind it", x, 6, 9);
    }

    /** Some trees of a length have more than 200 rules, others not. */
    private static void drawThousandsOfRules() {
        Check.says(12, "TOO_MANY, and nothing happens, if its row has more than 200.");
        Loom x = new Loom();
        for (int left = 0; left < 7; left++) {
            int part = left + 1;
            x.add(left, part, part, part, part, part, part);
        }
        x.add(7);
        Check.due("one tree", 1, x.trees(0, 0));
        Check.due("of more than 300,000 rules", Check.TOO_MANY, x.draw(0, 0, 0));
        Check.due("of 43", 43, x.draw(5, 0, 0));
        Check.due("of 259", Check.TOO_MANY, x.draw(4, 0, 0));
        Check.due("no tree was drawn instead", 5, x.row(0));
        Check.due("no tree was drawn instead", Check.NONE, x.row(43));
        x.rule(0);
        Check.due("the first of two", Check.TOO_MANY, x.draw(0, 0, 0));
        Check.due("the second of two", 1, x.draw(0, 0, 1));
        Check.due("no third", Check.NONE, x.draw(0, 0, 2));
        Check.dueRow("the second of two", x, 8);
    }

    // ---- promise 13

    private static void row() {
        Check.says(13, "Rule i, from 0 on, of the row of the tree that was drawn latest");
        Loom x = new Loom();
        x.add(3, 8);
        x.add(0, 9, 0, 1);
        x.add(0);
        x.add(1, 10);
        x.draw(0, 4, 0);
        Check.dueRow("the first tree", x, 1, 1, 2, 3, 3);
        x.draw(3, 1, 0);
        Check.dueRow("a shorter one", x, 0);
        x.draw(0, 2, 0);
        Check.dueRow("a longer one", x, 1, 2, 3);
        x.draw(0, 1, 0);
        Check.dueRow("no tree was drawn", x, 1, 2, 3);
        x.draw(0, 0, 0);
        Check.dueRow("of no yield", x, 2);
    }

    private static void rowAsItWasThen() {
        Check.says(13, "(as the rules' numbers were then);");
        Loom x = new Loom();
        x.add(3, 8);
        x.add(0, 9, 0, 1);
        x.add(0);
        x.add(1, 10);
        x.draw(0, 2, 0);
        x.drop(0);
        Check.dueRow("behind a drop", x, 1, 2, 3);
        x.add(0, 11);
        Check.dueRow("behind a new rule", x, 1, 2, 3);
        x.draw(0, 2, 0);
        Check.dueRow("drawn again", x, 0, 1, 2);
        x.drop(2);
        x.drop(1);
        x.drop(0);
        Check.dueRow("behind all of its rules", x, 0, 1, 2);
    }

    private static void rowNone() {
        Check.says(13, "NONE if there is none such.");
        Loom x = new Loom();
        Check.due("no tree yet: row(0)", Check.NONE, x.row(0));
        for (int i : Wrong.places(0)) {
            Check.due("no tree yet: row(" + i + ")", Check.NONE, x.row(i));
        }
        x.add(0, 8, 0);
        x.add(0);
        Check.due("rules, and no tree yet", Check.NONE, x.row(0));
        x.draw(0, 2, 0);
        for (int i : Wrong.places(3)) {
            Check.due("of three: row(" + i + ")", Check.NONE, x.row(i));
        }
        Check.due("of three: row(2)", 1, x.row(2));
        x.draw(0, 1, 0);
        Check.due("of two: row(2)", Check.NONE, x.row(2));
        Loom y = Grammars.hundreds(4);
        y.draw(0, 0, 0);
        for (int i : Wrong.places(200)) {
            Check.due("of 200: row(" + i + ")", Check.NONE, y.row(i));
        }
    }

    // ---- promise 14

    private static void leaf() {
        Check.says(14, "Terminal i, from 0 on, of the yield of the tree that was drawn latest;");
        Loom x = new Loom();
        x.add(0, 8, 0, 1, 23);
        x.add(0);
        x.add(1, 10);
        x.draw(0, 6, 0);
        Check.dueYield("from left to right", x, 8, 8, 10, 23, 10, 23);
        x.draw(0, 3, 0);
        Check.dueYield("a shorter one", x, 8, 10, 23);
        x.draw(0, 9, 0);
        Check.dueYield("a longer one", x, 8, 8, 8, 10, 23, 10, 23, 10, 23);
        x.draw(0, 1, 0);
        Check.dueYield("no tree was drawn", x, 8, 8, 8, 10, 23, 10, 23, 10, 23);
    }

    private static void leafOfRulesNoMore() {
        Check.says(14, "of the tree that was drawn latest;");
        Loom x = new Loom();
        x.add(0, 8, 0, 23);
        x.add(0);
        x.draw(0, 4, 0);
        x.drop(0);
        x.add(0, 9, 9, 9, 9);
        Check.dueYield("behind its rule", x, 8, 8, 23, 23);
        x.drop(0);
        x.drop(0);
        Check.dueYield("without any rule", x, 8, 8, 23, 23);
    }

    private static void leafNone() {
        Check.says(14, "NONE if there is none such.");
        Loom x = Grammars.rowOfEights();
        Check.due("no tree yet: leaf(0)", Check.NONE, x.leaf(0));
        for (int i : Wrong.places(0)) {
            Check.due("no tree yet: leaf(" + i + ")", Check.NONE, x.leaf(i));
        }
        x.draw(0, 16, 0);
        Check.due("of 16: leaf(0)", 8, x.leaf(0));
        Check.due("of 16: leaf(15)", 8, x.leaf(15));
        for (int i : Wrong.places(16)) {
            Check.due("of 16: leaf(" + i + ")", Check.NONE, x.leaf(i));
        }
        x.draw(0, 3, 0);
        for (int i : Wrong.places(3)) {
            Check.due("of three: leaf(" + i + ")", Check.NONE, x.leaf(i));
        }
        x.draw(0, 0, 0);
        for (int i : Wrong.places(0)) {
            Check.due("of none: leaf(" + i + ")", Check.NONE, x.leaf(i));
        }
    }
}
