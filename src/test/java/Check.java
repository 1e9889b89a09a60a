import java.util.ArrayList;
import java.util.List;

/** Compares answers with those that are due, each under the document's words that ask for it. */
final class Check {
    static final int NONE = -1;
    static final int TOO_MANY = -2;

    /** Words of the document that a test stands for; promise 0 are the words before promise 1. */
    static final class Words {
        final int promise;
        final String text;
        private int answers;

        private Words(int promise, String text) {
            this.promise = promise;
            this.text = text;
        }

        @Override
        public String toString() {
            return (promise == 0 ? "terms" : "promise " + promise) + ", \"" + text + "\"";
        }
    }

    private static final List<Words> SAID = new ArrayList<>();
    private static volatile Words words;
    private static int asked = 0;
    private static int wrong = 0;

    static {
        Thread guard = new Thread(Check::stopLateTest);
        guard.setDaemon(true);
        guard.start();
    }

    private Check() {
    }

    /** So that a call that never ends is a test that fails; the longest test takes some seconds. */
    private static void stopLateTest() {
        try {
            Thread.sleep(300_000);
        } catch (InterruptedException e) {
            return;
        }
        System.out.println((words == null ? "the test" : words) + ": not ended after five minutes");
        Runtime.getRuntime().halt(1);
    }

    /** The answers from here on are due by these words. */
    static void says(int promise, String text) {
        words = new Words(promise, text);
        SAID.add(words);
    }

    static List<Words> said() {
        return SAID;
    }

    static void due(String call, long want, long got) {
        asked++;
        if (words != null) {
            words.answers++;
        }
        if (got != want) {
            fault(call + " answered " + got + ", due is " + want);
        }
    }

    static void due(String call, boolean want, boolean got) {
        due(call, want ? 1 : 0, got ? 1 : 0);
    }

    static void fault(String what) {
        wrong++;
        System.out.println(words == null ? what : words + ": " + what);
    }

    /** Ends the test: with exit code 1 if an answer was wrong, or words were said and not tested. */
    static void end() {
        for (Words each : SAID) {
            if (each.answers == 0) {
                fault("nothing was asked for under " + each);
            }
        }
        System.out.println(asked + " answers, " + wrong + " wrong");
        if (wrong != 0 || asked == 0) {
            System.exit(1);
        }
    }

    static void dueRow(String when, Loom x, int... row) {
        for (int i = 0; i < row.length; i++) {
            due(when + ": row(" + i + ")", row[i], x.row(i));
        }
        due(when + ": row(" + row.length + ")", NONE, x.row(row.length));
    }

    /** The tree with the number is drawn, and has the row. */
    static void dueTree(Loom x, int nonterminal, int length, long number, int... row) {
        String call = "draw(" + nonterminal + ", " + length + ", " + number + ")";
        due(call, row.length, x.draw(nonterminal, length, number));
        dueRow(call, x, row);
    }

    static void dueYield(String when, Loom x, int... yield) {
        for (int i = 0; i < yield.length; i++) {
            due(when + ": leaf(" + i + ")", yield[i], x.leaf(i));
        }
        due(when + ": leaf(" + yield.length + ")", NONE, x.leaf(yield.length));
    }

    static void dueRule(String when, Loom x, int rule, int left, int... right) {
        due(when + ": left side of rule " + rule, left, x.about(rule, -1));
        for (int i = 0; i < right.length; i++) {
            due(when + ": symbol " + i + " of rule " + rule, right[i], x.about(rule, i));
        }
        due(when + ": symbol " + right.length + " of rule " + rule, NONE, x.about(rule, right.length));
    }

    /** As many rules, symbols of the text and rules of the list. */
    static void dueCounts(String when, Loom x, int rules, int symbols, int listed) {
        due(when + ": count(0)", rules, x.count(0));
        due(when + ": count(1)", symbols, x.count(1));
        due(when + ": count(2)", listed, x.count(2));
    }
}
