/** Each promise of the document by itself: ordinary inputs, the edges it names, and wrong inputs. */
public final class PromisesTest extends Trial {
    private static final int[] WILD = {Integer.MIN_VALUE, -2, -1, 7, 12, 1 << 30, Integer.MAX_VALUE};

    private static void dueSmall(String after, WeightedTrellis x) {
        int[][] rows = {{2, 5}, {1, 2}, {0, 6}, {3, 4}, {2, 1}};
        for (int c = 0; c < 2; c++) {
            due(after + ": begin", x.weight(BEGIN, 0, c), rows[0][c]);
            for (int s = 0; s < 2; s++) {
                due(after + ": step", x.weight(STEP, s, c), rows[1 + s][c]);
                due(after + ": show", x.weight(SHOW, s, c), rows[3 + s][c]);
            }
            due(after + ": symbol", x.symbol(c), c);
        }
        due(after + ": seen", x.seen(), 2);
        due(after + ": total", x.total(), 96);
    }

    private static void constants() {
        due("NONE", NONE, -1);
        due("BEGIN", BEGIN, 0);
        due("STEP", STEP, 1);
        due("SHOW", SHOW, 2);
    }

    private static void promise1NewObject() {
        WeightedTrellis x = new WeightedTrellis();
        for (int kind = 0; kind < 3; kind++) {
            due("a new weight", x.weight(kind, 0, 0), 1);
            due("one column", x.weight(kind, 0, 1), NONE);
            due("one row", x.weight(kind, 1, 0), NONE);
        }
        due("seen()", x.seen(), 0);
        due("symbol(0)", x.symbol(0), NONE);
        due("drawn(0)", x.drawn(0), NONE);
        due("total()", x.total(), 1);
        due("ways()", x.ways(), 1);
        due("see(1)", x.see(1), NONE);
        due("see(0)", x.see(0), 1);
        WeightedTrellis other = new WeightedTrellis();
        due("another object has seen nothing", other.seen(), 0);
    }

    private static void promise2Size() {
        for (int states = 1; states <= 3; states++) {
            for (int symbols = 1; symbols <= 4; symbols++) {
                dueFreshSize(states, symbols);
            }
        }
        WeightedTrellis x = small();
        x.draw(30);
        int[][] refused = {{0, 2}, {4, 2}, {2, 0}, {2, 5}, {-1, 1}, {1, -1}, {4, 5},
            {Integer.MIN_VALUE, 1}, {1, Integer.MIN_VALUE}, {Integer.MAX_VALUE, 1}, {1, Integer.MAX_VALUE}};
        for (int[] pair : refused) {
            due("size(" + pair[0] + ", " + pair[1] + ")", x.size(pair[0], pair[1]), false);
        }
        dueSmall("a refused size", x);
        dueDrawn(x, 0, 1);
    }

    private static void dueFreshSize(int states, int symbols) {
        WeightedTrellis x = small();
        x.weigh(STEP, 1, 1, 0);
        x.learn();
        x.draw(0);
        due("size", x.size(states, symbols), true);
        for (int s = -1; s <= 4; s++) {
            for (int c = -1; c <= 5; c++) {
                boolean state = s >= 0 && s < states;
                boolean column = c >= 0 && c < states;
                boolean symbol = c >= 0 && c < symbols;
                due("begin after size", x.weight(BEGIN, s, c), s == 0 && column ? 1 : NONE);
                due("step after size", x.weight(STEP, s, c), state && column ? 1 : NONE);
                due("show after size", x.weight(SHOW, s, c), state && symbol ? 1 : NONE);
            }
        }
        due("seen after size", x.seen(), 0);
        due("drawn after size", x.drawn(0), NONE);
        due("total after size", x.total(), 1);
        due("see after size", x.see(symbols), NONE);
        due("see after size", x.see(symbols - 1), 1);
        due("total after see", x.total(), states);
    }

    private static void promise3Weigh() {
        WeightedTrellis x = small();
        x.draw(0);
        for (int w : new int[] {-1, 10, Integer.MIN_VALUE, Integer.MAX_VALUE}) {
            due("weigh to " + w, x.weigh(STEP, 0, 0, w), false);
        }
        for (int bad : WILD) {
            due("weigh kind " + bad, x.weigh(bad, 0, 0, 3), false);
            for (int kind = 0; kind < 3; kind++) {
                due("weigh row " + bad, x.weigh(kind, bad, 0, 3), false);
                due("weigh column " + bad, x.weigh(kind, 0, bad, 3), false);
            }
        }
        due("weigh kind 3", x.weigh(3, 0, 0, 3), false);
        due("weigh begin row 1", x.weigh(BEGIN, 1, 0, 3), false);
        due("weigh begin column 2", x.weigh(BEGIN, 0, 2, 3), false);
        due("weigh step row 2", x.weigh(STEP, 2, 0, 3), false);
        due("weigh step column 2", x.weigh(STEP, 0, 2, 3), false);
        due("weigh show row 2", x.weigh(SHOW, 2, 0, 3), false);
        due("weigh show column 2", x.weigh(SHOW, 0, 2, 3), false);
        dueSmall("a refused weigh", x);
        due("weigh to 0", x.weigh(SHOW, 1, 1, 0), true);
        due("weigh to 0", x.weight(SHOW, 1, 1), 0);
        due("total then", x.total(), 24);
        due("ways then", x.ways(), 1);
        due("weigh to 9", x.weigh(SHOW, 1, 1, 9), true);
        due("weigh to 9", x.weight(SHOW, 1, 1), 9);
        due("total then", x.total(), 24 + 9 * 12 + 9 * 60);
    }

    private static void promise4Weight() {
        WeightedTrellis x = new WeightedTrellis();
        int[][] rows = {{1, 2, 3}, {4, 5, 6}, {7, 8, 9}, {0, 1, 2}, {3, 4, 5, 6}, {7, 8, 9, 0}, {2, 4, 6, 8}};
        setAll(x, 4, rows);
        for (int s = 0; s < 3; s++) {
            due("begin", x.weight(BEGIN, 0, s), rows[0][s]);
            due("no begin row", x.weight(BEGIN, 1 + s, 0), NONE);
            for (int c = 0; c < 4; c++) {
                due("step", x.weight(STEP, s, c), c < 3 ? rows[1 + s][c] : NONE);
                due("show", x.weight(SHOW, s, c), rows[4 + s][c]);
            }
        }
        for (int bad : WILD) {
            due("weight kind " + bad, x.weight(bad, 0, 0), NONE);
            for (int kind = 0; kind < 3; kind++) {
                due("weight row " + bad, x.weight(kind, bad, 0), NONE);
                due("weight column " + bad, x.weight(kind, 0, bad), NONE);
            }
        }
        due("kind 3", x.weight(3, 0, 0), NONE);
        due("show column 4", x.weight(SHOW, 0, 4), NONE);
        due("show row 3", x.weight(SHOW, 3, 0), NONE);
    }

    private static void promise5See() {
        WeightedTrellis x = new WeightedTrellis();
        x.size(2, 3);
        for (int bad : new int[] {-1, 3, 4, Integer.MIN_VALUE, Integer.MAX_VALUE}) {
            due("see(" + bad + ")", x.see(bad), NONE);
        }
        due("nothing seen", x.seen(), 0);
        int[] row = {2, 0, 1, 1, 2, 0};
        for (int p = 0; p < 6; p++) {
            due("see", x.see(row[p]), p + 1);
        }
        due("the seventh", x.see(0), NONE);
        due("seen()", x.seen(), 6);
        for (int p = 0; p < 6; p++) {
            due("symbol", x.symbol(p), row[p]);
        }
        due("total", x.total(), 64);
    }

    private static void promise6Forget() {
        WeightedTrellis x = small();
        x.draw(95);
        for (int bad : new int[] {-1, 3, Integer.MIN_VALUE, Integer.MAX_VALUE}) {
            due("forget(" + bad + ")", x.forget(bad), NONE);
        }
        dueSmall("a refused forget", x);
        due("forget(n)", x.forget(2), 0);
        dueSmall("forget(n)", x);
        due("forget(1)", x.forget(1), 1);
        due("seen", x.seen(), 1);
        due("symbol(0)", x.symbol(0), 0);
        due("symbol(1)", x.symbol(1), NONE);
        due("total", x.total(), 16);
        due("see", x.see(0), 2);
        due("symbol(1)", x.symbol(1), 0);
        due("forget(0)", x.forget(0), 2);
        due("total", x.total(), 1);
        due("forget(0) of nothing", x.forget(0), 0);
        due("forget(1) of nothing", x.forget(1), NONE);
        dueDrawn(x, 1, 1);
    }

    private static void promises7And8SeenAndSymbol() {
        WeightedTrellis x = new WeightedTrellis();
        x.size(1, 4);
        for (int n = 0; n < 6; n++) {
            due("seen()", x.seen(), n);
            due("symbol(n)", x.symbol(n), NONE);
            x.see(3 - n % 4);
            due("symbol(n)", x.symbol(n), 3 - n % 4);
        }
        due("seen()", x.seen(), 6);
        for (int bad : new int[] {-1, 6, Integer.MIN_VALUE, Integer.MAX_VALUE}) {
            due("symbol(" + bad + ")", x.symbol(bad), NONE);
        }
        x.forget(3);
        due("seen() after forget", x.seen(), 3);
        due("symbol(3) after forget", x.symbol(3), NONE);
    }

    private static void promise9Total() {
        WeightedTrellis x = small();
        due("total", x.total(), 96);
        x.forget(1);
        due("total", x.total(), 2 * 3 + 5 * 2);
        x.forget(0);
        due("total of nothing seen", x.total(), 1);
        x.weigh(BEGIN, 0, 0, 0);
        x.weigh(BEGIN, 0, 1, 0);
        due("total of nothing seen without begin", x.total(), 1);
        x.see(0);
        due("total without begin", x.total(), 0);
        due("the greatest total", heaviest().total(), 282429536481L * 729);
    }

    private static void promise10Before() {
        WeightedTrellis x = small();
        due("before(0, 0)", x.before(0, 0), 6);
        due("before(0, 1)", x.before(0, 1), 10);
        due("before(1, 0)", x.before(1, 0), 24);
        due("before(1, 1)", x.before(1, 1), 72);
        for (int bad : new int[] {-1, 2, 3, Integer.MIN_VALUE, Integer.MAX_VALUE}) {
            due("before place " + bad, x.before(bad, 0), 0);
            due("before state " + bad, x.before(0, bad), 0);
        }
        x.forget(0);
        due("before of nothing", x.before(0, 0), 0);
        due("before at its greatest", heaviest().before(5, 2), 282429536481L * 243);
    }

    private static void promise11Behind() {
        WeightedTrellis x = small();
        due("behind(0, 0)", x.behind(0, 0), 1 * 4 + 2 * 1);
        due("behind(0, 1)", x.behind(0, 1), 0 * 4 + 6 * 1);
        due("behind(1, 0)", x.behind(1, 0), 1);
        due("behind(1, 1)", x.behind(1, 1), 1);
        for (int bad : new int[] {-1, 2, 3, Integer.MIN_VALUE, Integer.MAX_VALUE}) {
            due("behind place " + bad, x.behind(bad, 0), 0);
            due("behind state " + bad, x.behind(0, bad), 0);
        }
        x.weigh(SHOW, 0, 1, 0);
        due("behind the end, with show 0", x.behind(1, 0), 1);
        x.forget(1);
        due("behind after forget", x.behind(0, 0), 1);
        x.forget(0);
        due("behind of nothing", x.behind(0, 0), 0);
        due("behind at its greatest", heaviest().behind(0, 0), 3486784401L * 243);
    }

    private static void promise12Ways() {
        WeightedTrellis x = small();
        due("ways", x.ways(), 3);
        x.weigh(STEP, 1, 0, 1);
        due("ways", x.ways(), 4);
        x.weigh(SHOW, 0, 1, 0);
        due("ways", x.ways(), 2);
        x.weigh(SHOW, 1, 1, 0);
        due("no ways", x.ways(), 0);
        x.forget(0);
        due("the way without states", x.ways(), 1);
        due("all ways", heaviest().ways(), 729);
    }

    private static void promises13And14RankedAndStateOf() {
        WeightedTrellis x = small();
        dueRanked(x, 0, 60, 1, 1, NONE);
        dueRanked(x, 1, 24, 0, 0, NONE);
        dueRanked(x, 2, 12, 0, 1, NONE);
        dueRanked(x, 3, 0, NONE, NONE);
        for (int bad : WILD) {
            due("ranked(" + bad + ")", x.ranked(bad), 0);
            due("stateOf rank " + bad, x.stateOf(bad, 0), NONE);
            due("stateOf place " + bad, x.stateOf(0, bad), NONE);
        }
        due("stateOf(0, 2)", x.stateOf(0, 2), NONE);
        x.forget(0);
        dueRanked(x, 0, 1, NONE);
        dueRanked(x, 1, 0, NONE);
        rankOfEqualWeights();
        rankAtTheLimit();
    }

    private static void rankOfEqualWeights() {
        WeightedTrellis x = heaviest();
        for (int i = 0; i < 12; i++) {
            dueRanked(x, i, 282429536481L, 0, 0, 0, i / 9, i / 3 % 3, i % 3);
        }
        due("ranked(12)", x.ranked(12), 0);
        due("stateOf(12, 0)", x.stateOf(12, 0), NONE);
    }

    /** Later ways are heavier here, so each one pushes the lightest out of the twelve. */
    private static void rankAtTheLimit() {
        WeightedTrellis x = new WeightedTrellis();
        setAll(x, 1, new int[][] {{1, 2, 3}, {1, 1, 1}, {1, 1, 1}, {1, 1, 1}, {1}, {2}, {4}});
        x.see(0);
        x.see(0);
        x.see(0);
        // 3*4*4*4, then the ways with one show less, the one that comes before first.
        dueRanked(x, 0, 192, 2, 2, 2);
        dueRanked(x, 1, 96, 2, 1, 2);
        dueRanked(x, 2, 96, 2, 2, 1);
        dueRanked(x, 3, 64, 1, 2, 2);
        dueRanked(x, 4, 48, 2, 0, 2);
        dueRanked(x, 5, 48, 2, 1, 1);
        dueRanked(x, 6, 48, 2, 2, 0);
        dueRanked(x, 7, 32, 1, 1, 2);
        dueRanked(x, 8, 32, 1, 2, 1);
        dueRanked(x, 9, 24, 2, 0, 1);
        dueRanked(x, 10, 24, 2, 1, 0);
        dueRanked(x, 11, 16, 0, 2, 2);
        dueRanked(x, 12, 0, NONE, NONE, NONE);
    }

    private static void promise15Share() {
        WeightedTrellis x = small();
        dueShare(x, BEGIN, 0, 0, 3, 8);
        dueShare(x, BEGIN, 0, 1, 5, 8);
        dueShare(x, BEGIN, 1, 0, 1, 4);
        dueShare(x, BEGIN, 1, 1, 3, 4);
        dueShare(x, STEP, 0, 0, 1, 4);
        dueShare(x, STEP, 0, 1, 1, 8);
        dueShare(x, STEP, 1, 0, 0, 1);
        dueShare(x, STEP, 1, 1, 5, 8);
        dueShare(x, SHOW, 0, 0, 3, 8);
        dueShare(x, SHOW, 0, 1, 1, 4);
        dueShare(x, SHOW, 1, 0, 5, 8);
        dueShare(x, SHOW, 1, 1, 3, 4);
        refusedShares(x);
        x.forget(0);
        dueShare(x, BEGIN, 0, 0, 0, 0);
        dueShare(x, STEP, 0, 0, 0, 1);
        dueShare(x, SHOW, 0, 0, 0, 1);
        x.weigh(SHOW, 0, 0, 0);
        x.weigh(SHOW, 1, 0, 0);
        x.see(0);
        dueShare(x, BEGIN, 0, 0, 0, 1);
        dueShare(x, BEGIN, 1, 0, 0, 0);
        dueShare(x, STEP, 0, 0, 0, 1);
        dueShare(x, SHOW, 0, 0, 0, 1);
        WeightedTrellis great = heaviest();
        dueShare(great, BEGIN, 5, 2, 1, 3);
        dueShare(great, STEP, 1, 2, 5, 9);
        dueShare(great, SHOW, 2, 3, 2, 1);
        dueShare(great, SHOW, 2, 0, 0, 1);
    }

    private static void refusedShares(WeightedTrellis x) {
        for (int part : new int[] {-1, 2, Integer.MIN_VALUE, Integer.MAX_VALUE}) {
            for (int kind = 0; kind < 3; kind++) {
                due("share part " + part, x.share(kind, 0, 0, part), 0);
            }
        }
        for (int bad : WILD) {
            dueShare(x, bad, 0, 0, 0, 0);
            for (int kind = 0; kind < 3; kind++) {
                dueShare(x, kind, bad, 0, 0, 0);
                dueShare(x, kind, 0, bad, 0, 0);
            }
        }
        dueShare(x, 3, 0, 0, 0, 0);
        for (int kind = 0; kind < 3; kind++) {
            dueShare(x, kind, 2, 0, 0, 0);
            dueShare(x, kind, 0, 2, 0, 0);
        }
    }

    private static void promise16Learned() {
        WeightedTrellis x = small();
        dueLearned(x, BEGIN, 0, 0, 3, 8);
        dueLearned(x, BEGIN, 0, 1, 5, 8);
        dueLearned(x, STEP, 0, 0, 2, 3);
        dueLearned(x, STEP, 0, 1, 1, 3);
        dueLearned(x, STEP, 1, 0, 0, 1);
        dueLearned(x, STEP, 1, 1, 1, 1);
        dueLearned(x, SHOW, 0, 0, 3, 5);
        dueLearned(x, SHOW, 1, 0, 5, 11);
        dueLearned(x, SHOW, 1, 1, 6, 11);
        refusedLearned(x);
        // One place has no steps, so they are what there is now.
        x.forget(1);
        dueLearned(x, BEGIN, 0, 0, 3, 8);
        dueLearned(x, STEP, 0, 1, 2, 3);
        dueLearned(x, SHOW, 0, 0, 1, 1);
        dueLearned(x, SHOW, 0, 1, 0, 1);
        x.forget(0);
        dueLearned(x, BEGIN, 0, 1, 5, 7);
        dueLearned(x, STEP, 0, 1, 2, 3);
        dueLearned(x, STEP, 1, 0, 0, 1);
        dueLearned(x, SHOW, 0, 1, 4, 7);
        learnedWithoutTotal(x);
    }

    private static void learnedWithoutTotal(WeightedTrellis x) {
        x.see(0);
        x.see(1);
        x.weigh(SHOW, 0, 0, 0);
        x.weigh(SHOW, 1, 0, 0);
        dueLearned(x, BEGIN, 0, 0, 2, 7);
        dueLearned(x, STEP, 0, 0, 1, 3);
        dueLearned(x, SHOW, 0, 1, 1, 1);
        x.weigh(SHOW, 0, 1, 0);
        dueLearned(x, SHOW, 0, 1, 0, 1);
        x.weigh(BEGIN, 0, 0, 0);
        x.weigh(BEGIN, 0, 1, 0);
        dueLearned(x, BEGIN, 0, 0, 0, 1);
        // A state that no way goes through keeps what it has, though the total is not 0.
        WeightedTrellis y = small();
        y.weigh(BEGIN, 0, 1, 0);
        y.weigh(STEP, 0, 1, 0);
        dueLearned(y, BEGIN, 0, 1, 0, 1);
        dueLearned(y, STEP, 1, 1, 1, 1);
        dueLearned(y, SHOW, 1, 0, 2, 3);
    }

    private static void refusedLearned(WeightedTrellis x) {
        for (int part : new int[] {-1, 2, Integer.MIN_VALUE, Integer.MAX_VALUE}) {
            for (int kind = 0; kind < 3; kind++) {
                due("learned part " + part, x.learned(kind, 0, 0, part), 0);
            }
        }
        for (int bad : WILD) {
            dueLearned(x, bad, 0, 0, 0, 0);
            for (int kind = 0; kind < 3; kind++) {
                dueLearned(x, kind, bad, 0, 0, 0);
                dueLearned(x, kind, 0, bad, 0, 0);
            }
        }
        dueLearned(x, 3, 0, 0, 0, 0);
        dueLearned(x, BEGIN, 1, 0, 0, 0);
        for (int kind = 0; kind < 3; kind++) {
            dueLearned(x, kind, 2, 0, 0, 0);
            dueLearned(x, kind, 0, 2, 0, 0);
        }
    }

    private static void promise17Learn() {
        WeightedTrellis x = small();
        x.draw(40);
        // Nine times 3/8 and 5/8; 2/3 and 1/3; 0 and 1; 3/5 and 2/5; 5/11 and 6/11.
        due("learn()", x.learn(), 3 + 6 + 6 + 3 + 0 + 9 + 5 + 4 + 4 + 5);
        int[][] rows = {{3, 6}, {6, 3}, {0, 9}, {5, 4}, {4, 5}};
        for (int c = 0; c < 2; c++) {
            due("learned begin", x.weight(BEGIN, 0, c), rows[0][c]);
            for (int s = 0; s < 2; s++) {
                due("learned step", x.weight(STEP, s, c), rows[1 + s][c]);
                due("learned show", x.weight(SHOW, s, c), rows[3 + s][c]);
            }
        }
        due("seen after learn", x.seen(), 2);
        due("total after learn", x.total(), 15 * 6 * 4 + 15 * 3 * 5 + 24 * 9 * 5);
        dueDrawn(x, 1, 1);
        learnOfHalves();
        due("learn() of a new object", new WeightedTrellis().learn(), 27);
        WeightedTrellis great = heaviest();
        due("learn at the greatest", great.learn(), 3 * 3 + 9 * 3 + 3 * 9);
    }

    /** Half of nine is as near to 4 as to 5. */
    private static void learnOfHalves() {
        WeightedTrellis x = new WeightedTrellis();
        x.size(2, 2);
        due("learn() of halves", x.learn(), 50);
        due("a half", x.weight(SHOW, 1, 1), 5);
        x.weigh(BEGIN, 0, 0, 0);
        x.weigh(BEGIN, 0, 1, 0);
        due("learn() without begin", x.learn(), 40);
        due("begin stays 0", x.weight(BEGIN, 0, 0), 0);
        x.weigh(STEP, 0, 0, 1);
        x.weigh(STEP, 0, 1, 3);
        due("learn() of quarters", x.learn(), 2 + 7 + 10 + 20);
        due("a quarter", x.weight(STEP, 0, 0), 2);
        due("three quarters", x.weight(STEP, 0, 1), 7);
    }

    private static void promise18Draw() {
        WeightedTrellis x = small();
        long[] refused = {-1, 96, 97, Long.MIN_VALUE, Long.MAX_VALUE, 1L << 32, (1L << 32) + 5};
        for (long u : refused) {
            due("draw(" + u + ")", x.draw(u), false);
            due("nothing is drawn", x.drawn(0), NONE);
        }
        for (int u = 0; u < 96; u++) {
            due("draw(" + u + ")", x.draw(u), true);
            dueDrawn(x, u < 36 ? 0 : 1, u < 24 ? 0 : 1);
        }
        x.draw(0);
        due("draw(96)", x.draw(96), false);
        dueDrawn(x, 0, 0);
        x.forget(0);
        due("draw(1) of nothing seen", x.draw(1), false);
        dueDrawn(x, 0, 0);
        due("draw(0) of nothing seen", x.draw(0), true);
        dueDrawn(x);
        x.see(0);
        x.weigh(SHOW, 0, 0, 0);
        x.weigh(SHOW, 1, 0, 0);
        due("draw(0) without total", x.draw(0), false);
        WeightedTrellis great = heaviest();
        due("draw of the last unit", great.draw(282429536481L * 729 - 1), true);
        dueDrawn(great, 2, 2, 2, 2, 2, 2);
        due("draw behind the last unit", great.draw(282429536481L * 729), false);
        due("draw in the middle", great.draw(282429536481L * 365 - 1), true);
        dueDrawn(great, 1, 1, 1, 1, 1, 1);
        due("draw one further", great.draw(282429536481L * 365), true);
        dueDrawn(great, 1, 1, 1, 1, 1, 2);
    }

    private static void promise19Drawn() {
        WeightedTrellis x = small();
        due("drawn before draw", x.drawn(0), NONE);
        x.draw(30);
        dueDrawn(x, 0, 1);
        for (int bad : WILD) {
            due("drawn(" + bad + ")", x.drawn(bad), NONE);
        }
        x.see(1);
        dueDrawn(x, 0, 1);
        x.weigh(STEP, 0, 1, 0);
        x.learn();
        x.forget(0);
        dueDrawn(x, 0, 1);
        x.see(0);
        due("draw of one place", x.draw(x.total() - 1), true);
        dueDrawn(x, 1);
        x.size(0, 0);
        dueDrawn(x, 1);
        x.size(2, 2);
        dueDrawn(x);
    }

    public static void main(String[] args) {
        constants();
        promise1NewObject();
        promise2Size();
        promise3Weigh();
        promise4Weight();
        promise5See();
        promise6Forget();
        promises7And8SeenAndSymbol();
        promise9Total();
        promise10Before();
        promise11Behind();
        promise12Ways();
        promises13And14RankedAndStateOf();
        promise15Share();
        promise16Learned();
        promise17Learn();
        promise18Draw();
        promise19Drawn();
        close();
    }
}
