import java.util.ArrayList;
import java.util.List;
import java.util.function.Consumer;

/** What the tests have in common: objects to try, and answers held against what is due. */
abstract class Trial {
    static final int NONE = WeightedTrellis.NONE;
    static final int BEGIN = WeightedTrellis.BEGIN;
    static final int STEP = WeightedTrellis.STEP;
    static final int SHOW = WeightedTrellis.SHOW;

    /** The weight of a way of six places where all weights are 9. */
    static final long NINES = 282429536481L;

    private static int wrong = 0;
    private static int sentences = 0;
    private static String words = "";

    /** Tries one sentence of the document; what is wrong is told under its words. */
    static void sentence(String text, Runnable trial) {
        sentences++;
        words = text + ": ";
        try {
            trial.run();
        } catch (RuntimeException thrown) {
            tell("a call threw " + thrown);
        }
        words = "";
    }

    static void tell(String fault) {
        wrong++;
        System.out.println(words + fault);
    }

    static void due(String what, long got, long want) {
        if (got != want) {
            tell(what + " answered " + got + ", due is " + want);
        }
    }

    static void due(String what, boolean got, boolean want) {
        due(what, got ? 1L : 0L, want ? 1L : 0L);
    }

    static void dueShare(WeightedTrellis x, int kind, int row, int column, long top, long bottom) {
        String call = "share(" + kind + ", " + row + ", " + column + ", ";
        due(call + "0)", x.share(kind, row, column, 0), top);
        due(call + "1)", x.share(kind, row, column, 1), bottom);
    }

    static void dueLearned(WeightedTrellis x, int kind, int row, int column, long top, long bottom) {
        String call = "learned(" + kind + ", " + row + ", " + column + ", ";
        due(call + "0)", x.learned(kind, row, column, 0), top);
        due(call + "1)", x.learned(kind, row, column, 1), bottom);
    }

    static void dueRanked(WeightedTrellis x, int i, long weight, int... way) {
        due("ranked(" + i + ")", x.ranked(i), weight);
        for (int p = 0; p < way.length; p++) {
            due("stateOf(" + i + ", " + p + ")", x.stateOf(i, p), way[p]);
        }
    }

    /** The way is drawn, and has no place more. */
    static void dueDrawn(WeightedTrellis x, int... way) {
        for (int p = 0; p < 7; p++) {
            due("drawn(" + p + ")", x.drawn(p), p < way.length ? way[p] : NONE);
        }
    }

    /** The rows are begin, the steps from each state, and the shows in each state. */
    static void setAll(WeightedTrellis x, int symbols, int[][] rows) {
        int states = rows[0].length;
        due("size(" + states + ", " + symbols + ")", x.size(states, symbols), true);
        for (int s = 0; s < states; s++) {
            due("weigh begin", x.weigh(BEGIN, 0, s, rows[0][s]), true);
            for (int t = 0; t < states; t++) {
                due("weigh step", x.weigh(STEP, s, t, rows[1 + s][t]), true);
            }
            for (int k = 0; k < symbols; k++) {
                due("weigh show", x.weigh(SHOW, s, k, rows[1 + states + s][k]), true);
            }
        }
    }

    static WeightedTrellis made(int symbols, int[][] rows, int... seen) {
        WeightedTrellis x = new WeightedTrellis();
        setAll(x, symbols, rows);
        seeAll(x, seen);
        return x;
    }

    /** All weights are 1. */
    static WeightedTrellis plain(int states, int symbols, int... seen) {
        WeightedTrellis x = new WeightedTrellis();
        due("size(" + states + ", " + symbols + ")", x.size(states, symbols), true);
        seeAll(x, seen);
        return x;
    }

    static void seeAll(WeightedTrellis x, int... seen) {
        for (int k : seen) {
            int n = x.seen();
            due("see(" + k + ")", x.see(k), n + 1);
        }
    }

    /**
     * Two states, two symbols, symbols 0 and 1 seen. The ways weigh:
     * 00: 2*3*1*4 = 24, 01: 2*3*2*1 = 12, 10: 5*2*0*4 = 0, 11: 5*2*6*1 = 60.
     */
    static WeightedTrellis small() {
        return made(2, new int[][] {{2, 5}, {1, 2}, {0, 6}, {3, 4}, {2, 1}}, 0, 1);
    }

    /** The same, but no state shows what is seen first: the total is 0. */
    static WeightedTrellis weightless() {
        WeightedTrellis x = small();
        x.weigh(SHOW, 0, 0, 0);
        x.weigh(SHOW, 1, 0, 0);
        return x;
    }

    /** As much of everything as there can be. */
    static WeightedTrellis heaviest() {
        int[] nines = {9, 9, 9, 9};
        int[] three = {9, 9, 9};
        return made(4, new int[][] {three, three, three, three, nines, nines, nines}, 3, 3, 3, 3, 3, 3);
    }

    /** All states and symbols, no two rows alike, n symbols seen, and a way of them drawn. */
    static WeightedTrellis wide(int n) {
        int[][] rows = {{2, 1, 3}, {1, 2, 0}, {3, 1, 1}, {0, 2, 4}, {1, 0, 2, 3}, {2, 2, 1, 1}, {0, 3, 1, 5}};
        WeightedTrellis x = made(4, rows);
        int[] seen = {3, 1, 2, 0, 3, 2};
        for (int p = 0; p < n; p++) {
            x.see(seen[p]);
        }
        due("draw", x.draw(x.total() / 2), true);
        return x;
    }

    /** Numbers outside of low .. high: next to it, and such as wrap round into it when cut or multiplied. */
    static int[] outside(int low, int high) {
        return new int[] {low - 1, high + 1, low - 2, high + 2, low - 16, high + 16, low - 256, low + 256,
            low - 65536, low + 65536, high + (1 << 30), low - (1 << 30), 1431655766, -1431655765,
            Integer.MAX_VALUE - 1, Integer.MAX_VALUE, Integer.MIN_VALUE, Integer.MIN_VALUE + 1};
    }

    /** Answers of all calls that only ask, with what there is and a little beyond. */
    static List<String> answersOf(WeightedTrellis x, int states, int symbols) {
        List<String> answers = new ArrayList<>();
        answers.add("seen() = " + x.seen());
        answers.add("total() = " + x.total());
        answers.add("ways() = " + x.ways());
        for (int i = 0; i < 12; i++) {
            answers.add("ranked(" + i + ") = " + x.ranked(i));
        }
        for (int p = 0; p < 6; p++) {
            answers.add("symbol(" + p + ") = " + x.symbol(p));
            answers.add("drawn(" + p + ") = " + x.drawn(p));
            answers.add("stateOf(0, " + p + ") = " + x.stateOf(0, p));
            answers.add("stateOf(11, " + p + ") = " + x.stateOf(11, p));
            for (int s = 0; s < states; s++) {
                answers.add("before(" + p + ", " + s + ") = " + x.before(p, s));
                answers.add("behind(" + p + ", " + s + ") = " + x.behind(p, s));
                addShare(answers, x, BEGIN, p, s);
            }
        }
        for (int s = 0; s < states; s++) {
            addWeight(answers, x, BEGIN, 0, s);
            for (int t = 0; t < states; t++) {
                addWeight(answers, x, STEP, s, t);
                addShare(answers, x, STEP, s, t);
            }
            for (int k = 0; k < symbols; k++) {
                addWeight(answers, x, SHOW, s, k);
                addShare(answers, x, SHOW, s, k);
            }
        }
        return answers;
    }

    private static void addWeight(List<String> answers, WeightedTrellis x, int kind, int row, int column) {
        String at = "(" + kind + ", " + row + ", " + column;
        answers.add("weight" + at + ") = " + x.weight(kind, row, column));
        for (int part = 0; part < 2; part++) {
            answers.add("learned" + at + ", " + part + ") = " + x.learned(kind, row, column, part));
        }
    }

    private static void addShare(List<String> answers, WeightedTrellis x, int kind, int row, int column) {
        for (int part = 0; part < 2; part++) {
            answers.add("share(" + kind + ", " + row + ", " + column + ", " + part + ") = "
                    + x.share(kind, row, column, part));
        }
    }

    /** Two wide objects, of which one gets the call, then answer alike, also after further changes. */
    static void dueUnchanged(String call, int n, Consumer<WeightedTrellis> refused) {
        WeightedTrellis called = wide(n);
        WeightedTrellis twin = wide(n);
        refused.accept(called);
        dueAlike("after " + call, answersOf(called, 3, 4), answersOf(twin, 3, 4));
        dueAlike("later, after " + call, answersAfterChanges(called), answersAfterChanges(twin));
    }

    private static List<String> answersAfterChanges(WeightedTrellis x) {
        List<String> answers = new ArrayList<>();
        answers.add("see(1) = " + x.see(1));
        answers.add("total() = " + x.total());
        answers.add("learn() = " + x.learn());
        answers.add("total() = " + x.total());
        answers.add("size(2, 2) = " + x.size(2, 2));
        answers.add("see(1) = " + x.see(1));
        answers.add("total() = " + x.total());
        return answers;
    }

    static void dueAlike(String when, List<String> got, List<String> want) {
        for (int i = 0; i < want.size(); i++) {
            if (!got.get(i).equals(want.get(i))) {
                tell(when + ": " + got.get(i) + ", due is " + want.get(i));
            }
        }
    }

    /** Ends the test, with exit code 1 if anything was wrong. */
    static void close() {
        if (sentences != 0) {
            System.out.println(sentences + " sentences were tried");
        }
        System.out.println(wrong == 0 ? "all answers are as due" : wrong + " answers are not as due");
        if (wrong != 0) {
            System.exit(1);
        }
    }
}
