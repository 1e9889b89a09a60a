/** Promises 15 and 16: list, number. */
public final class NumberTest {
    public static void main(String[] args) {
        run();
        Check.end();
    }

    static void run() {
        list();
        listAnyInt();
        listBehind200();
        number();
        numberOfEveryTree();
        numbersUpToMost();
        numberOf200Rules();
        numberLeavesTheRest();
        noRow();
        noRowOfThisNonterminal();
        noRulesInTheList();
        rulesThatHaveMoved();
        lengthAbove16();
        circle();
        tooManyTrees();
        listIsEmptyThen();
        listIsEmptyBehindNone();
    }

    // ---- promise 15

    private static void list() {
        Check.says(15, "more in the list: how many it has;");
        Loom x = new Loom();
        for (int i = 0; i < 200; i++) {
            Check.due("list(0)", i + 1, x.list(0));
            Check.due("count(2)", i + 1, x.count(2));
        }
        x.number(0);
        Check.due("the first of the next list", 1, x.list(0));
        Check.due("the second of the next list", 2, x.list(0));
    }

    private static void listAnyInt() {
        Check.says(15, "A rule's number (any int) more in the list: how many it has;");
        Loom x = new Loom();
        int size = 0;
        for (int any : Wrong.places(0)) {
            size++;
            Check.due("list(" + any + ")", size, x.list(any));
        }
        for (int any = 0; any < 30; any++) {
            size++;
            Check.due("list(" + any + ")", size, x.list(any));
        }
        Check.due("count(2)", size, x.count(2));
        x.number(0);
        x.rule(0);
        x.tell(256);
        Check.due("256 is not 0", Check.NONE, x.number(0));
        x.tell(65536);
        Check.due("65536 is not 0", Check.NONE, x.number(0));
        x.tell(Integer.MIN_VALUE);
        Check.due("the least int is not 0", Check.NONE, x.number(0));
    }

    private static void listBehind200() {
        Check.says(15, "NONE, and it does not come, if there are 200.");
        Loom x = Grammars.hundreds(4);
        x.draw(0, 0, 0);
        for (int i = 0; i < 199; i++) {
            x.list(x.row(i));
        }
        Check.due("the 200th", 200, x.list(x.row(199)));
        Check.due("a 201st", Check.NONE, x.list(3));
        Check.due("a 201st, no rule", Check.NONE, x.list(-1));
        Check.due("count(2)", 200, x.count(2));
        Check.due("the row of 200 is still there", 0, x.number(0));
    }

    // ---- promise 16

    /** Rules 1 and 3 of nonterminal 0, 0 and 2 of nonterminal 1. */
    private static Loom two() {
        Loom x = new Loom();
        x.add(1, 8);
        x.add(0, 1, 9, 1);
        x.add(1);
        x.add(0, 9, 0);
        return x;
    }

    private static void number() {
        Check.says(16, "The list is the row of a tree of a nonterminal: the number that it has among those of "
                + "its length.");
        Loom x = two();
        Check.due("length 1", 0, x.numberOf(0, 1, 2, 2));
        Check.due("length 2, first", 0, x.numberOf(0, 1, 2, 0));
        Check.due("length 2, second", 1, x.numberOf(0, 1, 0, 2));
        Check.due("length 2, third", 2, x.numberOf(0, 3, 1, 2, 2));
        Check.due("length 3, first", 0, x.numberOf(0, 1, 0, 0));
        Check.due("length 3, third", 2, x.numberOf(0, 3, 1, 0, 2));
        Check.due("length 4, last", 3, x.numberOf(0, 3, 3, 3, 1, 2, 2));
        Check.due("of nonterminal 1", 0, x.numberOf(1, 0));
        Check.due("of nonterminal 1, empty", 0, x.numberOf(1, 2));
        x.rule(7);
        x.rule(7);
        Check.due("of nonterminal 7", 1, x.numberOf(7, 5));
    }

    /** Rules 0 and 2 of nonterminal 0, 1, 3 and 4 of nonterminal 1. */
    private static Loom between() {
        Loom x = new Loom();
        x.add(0, 1, 0, 1);
        x.add(1, 8, 8);
        x.add(0, 10);
        x.add(1, 9);
        x.add(1, 9, 9);
        return x;
    }

    private static void numberOfEveryTree() {
        Check.says(16, "the number that it has among those of its length.");
        Loom x = between();
        Check.due("shorter first tree first", 0, x.numberOf(0, 0, 3, 2, 1));
        Check.due("then by the rule behind", 1, x.numberOf(0, 0, 3, 2, 4));
        Check.due("longer first tree later", 2, x.numberOf(0, 0, 1, 2, 3));
        Check.due("and by its rule", 3, x.numberOf(0, 0, 4, 2, 3));
        for (int length = 0; length <= 9; length++) {
            long trees = x.trees(0, length);
            for (long n = 0; n < trees; n++) {
                Loom y = between();
                int rules = y.draw(0, length, n);
                for (int i = 0; i < rules; i++) {
                    y.list(y.row(i));
                }
                Check.due("the tree drawn, length " + length, n, y.number(0));
            }
        }
    }

    private static void numbersUpToMost() {
        Check.says(16, "the number that it has among those of its length.");
        Loom x = Grammars.most();
        long[] numbers = {0, 1, 4294967296L, 123456789012345678L, 987654321098765432L, Grammars.MOST - 1};
        for (long number : numbers) {
            Check.due("number " + number, number, x.numberOf(0, Grammars.digits(number)));
        }
    }

    private static void numberOf200Rules() {
        Check.says(16, "The list is the row of a tree of a nonterminal");
        Loom x = Grammars.hundreds(4);
        x.draw(0, 0, 0);
        for (int i = 0; i < 200; i++) {
            x.list(x.row(i));
        }
        Check.due("a row of 200", 0, x.number(0));
        Loom y = Grammars.deep();
        for (int i = 0; i < 135; i++) {
            y.list(i % 8);
        }
        y.list(8);
        Check.due("a row of 136, of length 16", 0, y.number(0));
    }

    private static void numberLeavesTheRest() {
        Check.says(16, "The list is the row of a tree of a nonterminal");
        Loom x = two();
        x.draw(0, 3, 2);
        x.symbol(8);
        x.numberOf(0, 1, 2, 0);
        Check.dueRow("the tree stays", x, 3, 1, 0, 2);
        Check.dueYield("the tree stays", x, 9, 8, 9);
        Check.dueCounts("the rules and the text stay", x, 4, 1, 0);
        x.numberOf(0, 3, 3);
        Check.dueRow("the tree stays behind no row", x, 3, 1, 0, 2);
        Check.dueYield("the tree stays behind no row", x, 9, 8, 9);
    }

    private static void noRow() {
        Check.says(16, "NONE if it is none,");
        Loom x = two();
        Check.due("an empty list", Check.NONE, x.numberOf(0));
        Check.due("an empty list of an empty one", Check.NONE, x.numberOf(1));
        Check.due("too short", Check.NONE, x.numberOf(0, 1, 2));
        Check.due("only the first", Check.NONE, x.numberOf(0, 1));
        Check.due("too long", Check.NONE, x.numberOf(0, 1, 2, 2, 2));
        Check.due("a row and another row", Check.NONE, x.numberOf(0, 1, 2, 2, 1, 2, 2));
        Check.due("two trees", Check.NONE, x.numberOf(1, 0, 0));
        Check.due("a row behind a rule that wants another", Check.NONE, x.numberOf(0, 1, 1, 2, 2));
        Check.due("a row behind a rule that wants none", Check.NONE, x.numberOf(0, 2, 1, 2, 2));
        Check.due("a wrong kind within", Check.NONE, x.numberOf(0, 1, 1, 2, 2, 2));
        Check.due("a wrong kind at the end", Check.NONE, x.numberOf(0, 3, 0));
        Check.due("from its end to its start", Check.NONE, x.numberOf(0, 2, 2, 1));
        Check.due("a right one still", 0, x.numberOf(0, 1, 2, 2));
        Loom y = new Loom();
        y.rule(3);
        y.tellTimes(200, 0);
        Check.due("200 trees", Check.NONE, y.number(3));
        Check.due("one tree", 0, y.numberOf(3, 0));
    }

    private static void noRowOfThisNonterminal() {
        Check.says(16, "NONE if it is none,");
        Loom x = two();
        Check.due("of another nonterminal", Check.NONE, x.numberOf(1, 1, 2, 2));
        Check.due("of one without rules", Check.NONE, x.numberOf(2, 1, 2, 2));
        for (int none : Wrong.NONTERMINALS) {
            Check.due("number(" + none + ")", Check.NONE, x.numberOf(none, 1, 2, 2));
            Check.due("number(" + none + ") of no list", Check.NONE, x.number(none));
        }
        Check.due("of its own", 0, x.numberOf(0, 1, 2, 2));
    }

    private static void noRulesInTheList() {
        Check.says(16, "NONE if it is none,");
        Loom x = two();
        for (int none : Wrong.places(4)) {
            Check.due("rule " + none + " alone", Check.NONE, x.numberOf(0, none));
            Check.due("rule " + none + " first", Check.NONE, x.numberOf(0, none, 2, 2));
            Check.due("rule " + none + " within", Check.NONE, x.numberOf(0, 1, none, 2));
            Check.due("rule " + none + " last", Check.NONE, x.numberOf(0, 1, 2, none));
            Check.due("rule " + none + " behind", Check.NONE, x.numberOf(0, 1, 2, 2, none));
        }
        Check.due("no rules at all", Check.NONE, new Loom().numberOf(0, 0));
        Check.due("a right one still", 0, x.numberOf(0, 1, 2, 2));
    }

    /** The list has the numbers that rules have when it is asked for, whatever they were before. */
    private static void rulesThatHaveMoved() {
        Check.says(16, "The list is the row of a tree of a nonterminal");
        Loom x = two();
        x.tell(1, 2, 2);
        x.add(1, 10);
        Check.due("a rule more behind", 0, x.number(0));
        x.tell(0, 1, 1);
        x.drop(0);
        Check.due("the rules have moved to these numbers", 0, x.number(0));
        x.tell(0, 1, 1);
        x.drop(1);
        Check.due("the rules have moved away", Check.NONE, x.number(0));
        x.tell(2);
        x.drop(2);
        Check.due("the rule is no more", Check.NONE, x.number(1));
    }

    private static void lengthAbove16() {
        Check.says(16, "the length is above 16,");
        Loom x = Grammars.rowOfEights();
        int[] lengths = {0, 1, 15, 16, 17, 18, 33, 199};
        for (int length : lengths) {
            x.tellTimes(length, 0);
            x.list(1);
            Check.due("a row of length " + length, length <= 16 ? 0 : Check.NONE, x.number(0));
        }
        Loom y = new Loom();
        y.add(0, 8, 8, 8, 8, 0, 0);
        y.add(0);
        y.add(1, 0, 8, 0);
        Check.due("16 by four rules", 13, y.numberOf(0, 0, 0, 0, 0, 1, 1, 1, 1, 1));
        Check.due("17", Check.NONE, y.numberOf(1, 2, 0, 0, 0, 0, 1, 1, 1, 1, 1, 1));
        Check.due("20", Check.NONE, y.numberOf(0, 0, 0, 0, 0, 0, 1, 1, 1, 1, 1, 1));
        Check.due("the list is empty then", 0, y.count(2));
    }

    private static void circle() {
        Check.says(16, "there is a circle,");
        Loom x = two();
        x.add(5, 5);
        Check.due("a circle elsewhere", Check.NONE, x.numberOf(0, 1, 2, 2));
        Check.due("the row of the circle", Check.NONE, x.numberOf(5, 4, 4, 4));
        x.add(5, 8);
        Check.due("a tree with the circle", Check.NONE, x.numberOf(5, 4, 4, 5));
        Check.due("a tree without it", Check.NONE, x.numberOf(5, 5));
        x.tell(1, 2, 2);
        x.drop(4);
        Check.due("no circle any more", 0, x.number(0));
    }

    private static void tooManyTrees() {
        Check.says(16, "or trees() of it is TOO_MANY.");
        Loom x = Grammars.most();
        Check.due("of 10^18", Grammars.MOST - 1, x.numberOf(0, Grammars.digits(Grammars.MOST - 1)));
        x.rule(0);
        Check.due("of 10^18 + 1", Check.NONE, x.numberOf(0, Grammars.digits(0)));
        Check.due("of 10^18 + 1, the last", Check.NONE, x.numberOf(0, 12));
        Check.due("a part of it has a number", 999999, x.numberOf(1, 1, 11, 11, 11, 11, 11, 11));
        x.add(0, 8);
        Check.due("another length has a number", 0, x.numberOf(0, 13));
        x.add(3, 0, 9);
        x.add(3, 8, 8);
        Check.due("too many below it", Check.NONE, x.numberOf(3, 14, 12));
        Check.due("another length has a number", 1, x.numberOf(3, 15));
    }

    private static void listIsEmptyThen() {
        Check.says(16, "The list is empty then.");
        Loom x = two();
        x.numberOf(0, 1, 2, 2);
        Check.due("behind a number", 0, x.count(2));
        Check.due("the next list begins anew", 1, x.list(1));
        Check.due("the next list begins anew", 2, x.list(2));
        Check.due("the next list begins anew", 3, x.list(0));
        Check.due("the next list is told alone", 0, x.number(0));
        Check.due("and asked again it is empty", Check.NONE, x.number(0));
    }

    private static void dueEmptied(String behind, Loom x, int nonterminal, int... row) {
        Check.due("number behind " + behind, Check.NONE, x.numberOf(nonterminal, row));
        Check.due("the list behind " + behind, 0, x.count(2));
    }

    private static void listIsEmptyBehindNone() {
        Check.says(16, "The list is empty then.");
        Loom x = two();
        dueEmptied("an empty list", x, 0);
        dueEmptied("no row", x, 0, 1, 2);
        dueEmptied("a row of another nonterminal", x, 1, 1, 2, 2);
        dueEmptied("no nonterminal", x, 8, 1, 2, 2);
        dueEmptied("no nonterminal", x, -1, 1, 2, 2);
        dueEmptied("no rule", x, 0, 99);
        dueEmptied("length 17", x, 0, 3, 3, 3, 3, 3, 3, 3, 3, 3, 3, 3, 3, 3, 3, 3, 3, 1, 2, 2);
        x.add(5, 5);
        dueEmptied("a circle", x, 0, 1, 2, 2);
        Loom y = Grammars.most();
        y.rule(0);
        dueEmptied("too many trees", y, 0, 12);
        Loom z = new Loom();
        z.tellTimes(200, 0);
        dueEmptied("200 rules", z, 0);
        Check.due("the first of the next list", 1, z.list(0));
    }
}
