import java.math.BigInteger;
import java.util.ArrayList;
import java.util.List;

/** Many runs of calls, right and wrong ones, beside the plain model; the same runs every time. */
public final class ModelTest {
    private static final int RUNS = 2000;
    private static final int FEW_TREES = 400;

    private final int run;
    private final Loom loom = new Loom();
    private final PlainModel model = new PlainModel();
    private final List<Integer> text = new ArrayList<>();
    private final List<Integer> list = new ArrayList<>();
    private List<Integer> row = new ArrayList<>();
    private List<Integer> yield = new ArrayList<>();
    private long state;
    private final int nonterminals;
    private final int smallest;
    private final int largest;
    private final int terminalsIn100;
    private final int upwardsIn100;

    private ModelTest(int run) {
        this.run = run;
        state = 7919L * run + 17;
        // A wide grammar has few terminals and trees of some hundred rules.
        boolean wide = run % 5 == 0;
        nonterminals = wide ? 4 + below(3) : 1 + below(8);
        largest = wide ? 6 : 1 + below(6);
        smallest = wide ? 2 + below(3) : 0;
        terminalsIn100 = wide ? below(5) : 10 + below(80);
        upwardsIn100 = wide ? 0 : new int[] {0, 20, 20, 100}[below(4)];
    }

    public static void main(String[] args) {
        for (int run = 0; run < RUNS; run++) {
            new ModelTest(run).play();
        }
        Check.end();
    }

    private int below(int bound) {
        state = state * 6364136223846793005L + 1442695040888963407L;
        return (int) ((state >>> 33) % bound);
    }

    private void due(String call, long want, long got) {
        Check.due("run " + run + ", call " + loom.calls() + ": " + call, want, got);
    }

    private int callsLeft() {
        return Loom.MOST_CALLS - loom.calls();
    }

    private void play() {
        if (below(4) != 0) {
            addShortRules();
        }
        int more = 1 + below(smallest == 0 ? 18 : 6);
        for (int i = 0; i < more; i++) {
            addRule();
        }
        while (callsLeft() > 100) {
            step();
        }
        lookAtAll();
        while (callsLeft() > 1) {
            lookAtTree();
        }
        if (callsLeft() > 0) {
            due("the 512th call, circle()", model.circle() ? 1 : 0, loom.circle() ? 1 : 0);
        }
    }

    private void step() {
        switch (below(16)) {
            case 0: addRule(); break;
            case 1: keepOrDropRule(); break;
            case 2: wrongText(); break;
            case 3: case 4: askShortest(); break;
            case 5: due("circle()", model.circle() ? 1 : 0, loom.circle() ? 1 : 0); break;
            case 6: case 7: case 8: askTrees(); break;
            case 9: case 10: askTreesWith(); break;
            case 11: case 12: case 13: drawTree(); break;
            default: askNumber(); break;
        }
    }

    /** Mostly from 0 on, now and then just outside or far away. */
    private int about(int bound) {
        switch (below(24)) {
            case 0: return -1;
            case 1: return bound;
            case 2: return below(2) == 0 ? Integer.MIN_VALUE : Integer.MAX_VALUE;
            default: return below(bound + 1);
        }
    }

    private int someNonterminal() {
        return below(8) == 0 ? about(8) : below(nonterminals);
    }

    private int someSymbol(int left) {
        if (below(100) < terminalsIn100) {
            return 8 + below(16);
        }
        if (below(100) < upwardsIn100) {
            return below(nonterminals);
        }
        return left + 1 < nonterminals ? left + 1 + below(Math.min(2, nonterminals - left - 1)) : 8;
    }

    private void addSymbol(int symbol) {
        boolean good = symbol >= 0 && symbol < 24 && text.size() < 6;
        if (good) {
            text.add(symbol);
        }
        due("symbol(" + symbol + ")", good ? text.size() : Check.NONE, loom.symbol(symbol));
    }

    private void addRule() {
        addRule(below(nonterminals));
    }

    private void addRule(int left) {
        int size = smallest + below(largest + 1 - smallest);
        for (int i = 0; i < size; i++) {
            addSymbol(someSymbol(left));
        }
        endRule(below(30) == 0 ? about(8) : left);
    }

    /** So that most nonterminals have trees; in a wide grammar the last ones, so that these are long. */
    private void addShortRules() {
        int first = smallest == 0 ? 0 : nonterminals - 1 - below(2);
        for (int left = 0; left < first; left++) {
            addRule(left);
        }
        for (int left = first; left < nonterminals; left++) {
            if (below(3) != 0 && smallest == 0) {
                addSymbol(8 + left);
            }
            endRule(left);
        }
    }

    private void endRule(int left) {
        boolean good = PlainModel.isNonterminal(left) && model.rules.size() < 24;
        if (good) {
            int[] rule = new int[text.size() + 1];
            rule[0] = left;
            for (int i = 0; i < text.size(); i++) {
                rule[i + 1] = text.get(i);
            }
            model.rules.add(rule);
            model.changed();
        }
        text.clear();
        due("rule(" + left + ")", good ? model.rules.size() - 1 : Check.NONE, loom.rule(left));
    }

    private void wrongText() {
        addSymbol(about(24));
        due("count(1)", text.size(), loom.count(1));
    }

    private void keepOrDropRule() {
        if (below(2) == 0) {
            dropRule();
        }
    }

    private void dropRule() {
        int rule = about(model.rules.size());
        boolean good = rule >= 0 && rule < model.rules.size();
        if (good) {
            model.rules.remove(rule);
            model.changed();
        }
        due("drop(" + rule + ")", good ? 1 : 0, loom.drop(rule) ? 1 : 0);
    }

    private void askShortest() {
        int nonterminal = someNonterminal();
        int got = loom.shortest(nonterminal);
        int want = PlainModel.isNonterminal(nonterminal) ? model.shortest(nonterminal) : Check.NONE;
        due("shortest(" + nonterminal + ")", want, beyond(want, got));
        int rule = about(model.rules.size());
        got = loom.shortestWith(rule);
        want = rule >= 0 && rule < model.rules.size() ? model.shortestWith(rule) : Check.NONE;
        due("shortestWith(" + rule + ")", want, beyond(want, got));
    }

    /** The model does not tell NONE from a length that is too long for it. */
    private static int beyond(int want, int got) {
        boolean fits = got == Check.NONE || got > PlainModel.LONGEST;
        return want == PlainModel.UNKNOWN && fits ? want : got;
    }

    private boolean canCount(int length) {
        return length >= 0 && length <= 16 && !model.circle();
    }

    private long dueTrees(int nonterminal, int length) {
        if (!PlainModel.isNonterminal(nonterminal) || !canCount(length)) {
            return Check.NONE;
        }
        BigInteger trees = model.trees(nonterminal, length);
        return trees.compareTo(PlainModel.MOST) > 0 ? Check.TOO_MANY : trees.longValueExact();
    }

    private void askTrees() {
        int nonterminal = someNonterminal();
        int length = about(16);
        due("trees(" + nonterminal + ", " + length + ")", dueTrees(nonterminal, length),
                loom.trees(nonterminal, length));
    }

    private void askTreesWith() {
        int rule = about(model.rules.size());
        int length = about(16);
        long want = Check.NONE;
        if (rule >= 0 && rule < model.rules.size()) {
            want = dueTrees(0, length);
            if (want >= 0) {
                want = model.treesWith(rule, length).longValueExact();
            }
        }
        due("treesWith(" + rule + ", " + length + ")", want, loom.treesWith(rule, length));
    }

    private void drawTree() {
        int nonterminal = someNonterminal();
        int length = about(below(3) == 0 ? 16 : 5);
        long trees = dueTrees(nonterminal, length);
        long number = below(8) == 0 ? about(10) : 0;
        if (trees > 0 && below(10) != 0) {
            number = ((long) below(1 << 30) << 30 | below(1 << 30)) % trees;
        }
        String call = "draw(" + nonterminal + ", " + length + ", " + number + ")";
        int got = loom.draw(nonterminal, length, number);
        if (number < 0 || number >= trees) {
            due(call, Check.NONE, got);
        } else {
            dueDrawn(call, got, treeAt(nonterminal, length, number));
            tellDrawn(nonterminal, number, got);
        }
        lookAtTree();
    }

    /** Among few trees, the one that has the place when all are put in THE ORDER. */
    private PlainModel.Tree treeAt(int nonterminal, int length, long number) {
        PlainModel.Tree tree = model.treeAt(nonterminal, length, number);
        if (dueTrees(nonterminal, length) <= FEW_TREES) {
            PlainModel.Tree listed = model.inOrder(nonterminal, length).get((int) number);
            boolean agree = tree == null ? listed.rules > 200 : model.compare(tree, listed) == 0;
            due("the model has one order", 1, agree ? 1 : 0);
        }
        return tree;
    }

    private void dueDrawn(String call, int got, PlainModel.Tree tree) {
        if (tree == null) {
            due(call, Check.TOO_MANY, got);
            return;
        }
        row = tree.row();
        yield = model.yieldOf(tree);
        due(call, row.size(), got);
        for (int i = 0; i < row.size() && callsLeft() > 100; i++) {
            due("row(" + i + ") behind " + call, row.get(i), loom.row(i));
        }
    }

    private void tellDrawn(int nonterminal, long number, int rules) {
        if (rules < 0 || row.size() + 60 > callsLeft()) {
            return;
        }
        tellRow(row);
        due("number(" + nonterminal + ") of the tree drawn", number, loom.number(nonterminal));
        list.clear();
    }

    private void tellRow(List<Integer> rules) {
        for (int rule : rules) {
            tell(rule);
        }
    }

    private void tell(int rule) {
        boolean good = list.size() < 200;
        if (good) {
            list.add(rule);
        }
        due("list(" + rule + ")", good ? list.size() : Check.NONE, loom.list(rule));
    }

    private void lookAtTree() {
        int i = about(row.size());
        due("row(" + i + ")", i >= 0 && i < row.size() ? row.get(i) : Check.NONE, loom.row(i));
        i = about(yield.size());
        due("leaf(" + i + ")", i >= 0 && i < yield.size() ? yield.get(i) : Check.NONE, loom.leaf(i));
    }

    /** The row of a tree of the model, now and then spoilt. */
    private void askNumber() {
        int nonterminal = below(nonterminals);
        int length = below(6);
        long trees = dueTrees(nonterminal, length);
        if (trees > 0 && trees <= FEW_TREES) {
            PlainModel.Tree tree = model.inOrder(nonterminal, length).get(below((int) trees));
            List<Integer> rules = tree.rules > 1000 ? List.of() : tree.row();
            tellRow(rules.subList(0, Math.min(rules.size(), callsLeft() - 60)));
        } else {
            tell(about(model.rules.size()));
        }
        if (below(5) == 0) {
            tell(about(model.rules.size()));
        }
        nonterminal = below(10) == 0 ? someNonterminal() : nonterminal;
        due("count(2)", list.size(), loom.count(2));
        due("number(" + nonterminal + ")", dueNumber(nonterminal), loom.number(nonterminal));
        list.clear();
        due("count(2)", 0, loom.count(2));
    }

    private long dueNumber(int nonterminal) {
        PlainModel.Tree tree = model.read(nonterminal, list);
        if (tree == null || dueTrees(nonterminal, tree.length) < 0) {
            return Check.NONE;
        }
        return model.numberOf(tree);
    }

    private void lookAtAll() {
        due("count(0)", model.rules.size(), loom.count(0));
        for (int r = 0; r < model.rules.size(); r++) {
            int[] rule = model.rules.get(r);
            int i = below(9) - 2;
            int want = i >= -1 && i < rule.length - 1 ? rule[i + 1] : Check.NONE;
            due("about(" + r + ", " + i + ")", want, loom.about(r, i));
        }
    }
}
