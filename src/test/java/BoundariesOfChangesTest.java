/** The boundary cases that promises 1 to 8 name: what is made, weighed, seen and forgotten. */
public final class BoundariesOfChangesTest extends Trial {
    /** Whether a new or newly sized object has this weight. */
    private static boolean has(int states, int symbols, int kind, int row, int column) {
        int rows = kind == BEGIN ? 1 : kind == STEP || kind == SHOW ? states : 0;
        int columns = kind == SHOW ? symbols : states;
        return row >= 0 && row < rows && column >= 0 && column < columns;
    }

    private static void dueAllWeightsOne(WeightedTrellis x, int states, int symbols) {
        for (int kind = BEGIN; kind <= SHOW; kind++) {
            for (int row = -1; row <= 3; row++) {
                for (int column = -1; column <= 4; column++) {
                    boolean there = has(states, symbols, kind, row, column);
                    due("weight(" + kind + ", " + row + ", " + column + ")",
                            x.weight(kind, row, column), there ? 1 : NONE);
                }
            }
        }
    }

    private static void dueNothingSeen(WeightedTrellis x) {
        due("seen()", x.seen(), 0);
        for (int p = 0; p < 6; p++) {
            due("symbol(" + p + ")", x.symbol(p), NONE);
        }
        due("total()", x.total(), 1);
        due("ways()", x.ways(), 1);
        due("before(0, 0)", x.before(0, 0), 0);
        due("behind(0, 0)", x.behind(0, 0), 0);
        dueRanked(x, 0, 1, NONE);
    }

    private static void aNewObjectHasOneStateAndOneSymbol() {
        WeightedTrellis x = new WeightedTrellis();
        dueAllWeightsOne(x, 1, 1);
        due("weigh begin of 1", x.weigh(BEGIN, 0, 1, 2), false);
        due("see(1)", x.see(1), NONE);
        due("see(0)", x.see(0), 1);
        due("ways()", x.ways(), 1);
        due("before(0, 1)", x.before(0, 1), 0);
    }

    private static void aNewObjectHasSeenNothing() {
        WeightedTrellis x = new WeightedTrellis();
        WeightedTrellis other = wide(6);
        dueNothingSeen(x);
        dueNothingSeen(new WeightedTrellis());
        due("the other has seen", other.seen(), 6);
    }

    private static void inANewObjectNoWayIsDrawn() {
        dueDrawn(new WeightedTrellis());
        WeightedTrellis x = new WeightedTrellis();
        x.see(0);
        dueDrawn(x);
    }

    private static void sizeOfTheLeastAndTheGreatest() {
        for (int states = 1; states <= 3; states++) {
            for (int symbols = 1; symbols <= 4; symbols++) {
                WeightedTrellis x = new WeightedTrellis();
                due("size(" + states + ", " + symbols + ")", x.size(states, symbols), true);
                dueAllWeightsOne(x, states, symbols);
                due("see(" + symbols + ")", x.see(symbols), NONE);
                due("see(" + (symbols - 1) + ")", x.see(symbols - 1), 1);
                due("total()", x.total(), states);
            }
        }
    }

    private static void sizeMakesAllWeightsOne() {
        for (int states = 1; states <= 3; states++) {
            for (int symbols = 1; symbols <= 4; symbols++) {
                WeightedTrellis x = wide(6);
                due("size", x.size(states, symbols), true);
                dueAllWeightsOne(x, states, symbols);
            }
        }
        // What was beyond a lesser size is not kept for a greater one.
        WeightedTrellis x = heaviest();
        x.size(1, 1);
        x.size(3, 4);
        dueAllWeightsOne(x, 3, 4);
    }

    private static void afterSizeNothingIsSeen() {
        for (int n = 0; n <= 6; n++) {
            WeightedTrellis x = wide(n);
            due("size of the same", x.size(3, 4), true);
            dueNothingSeen(x);
            for (int p = 0; p < 6; p++) {
                due("there is room again", x.see(3), p + 1);
            }
        }
    }

    private static void afterSizeNoWayIsDrawn() {
        for (int n = 0; n <= 6; n++) {
            WeightedTrellis x = wide(n);
            due("size of the same", x.size(3, 4), true);
            dueDrawn(x);
            seeAll(x, 0, 0, 0, 0, 0, 0);
            dueDrawn(x);
        }
    }

    private static void sizeRefusesStates() {
        for (int bad : outside(1, 3)) {
            for (int symbols = 1; symbols <= 4; symbols++) {
                WeightedTrellis x = new WeightedTrellis();
                due("size(" + bad + ", " + symbols + ")", x.size(bad, symbols), false);
                dueAllWeightsOne(x, 1, 1);
            }
        }
    }

    private static void sizeRefusesSymbols() {
        for (int bad : outside(1, 4)) {
            for (int states = 1; states <= 3; states++) {
                WeightedTrellis x = new WeightedTrellis();
                due("size(" + states + ", " + bad + ")", x.size(states, bad), false);
                dueAllWeightsOne(x, 1, 1);
            }
            due("size(0, " + bad + ")", new WeightedTrellis().size(0, bad), false);
            due("size(4, " + bad + ")", new WeightedTrellis().size(4, bad), false);
        }
    }

    private static void weighTheFirstAndTheLastOfEachKind() {
        for (int states = 1; states <= 3; states++) {
            for (int symbols = 1; symbols <= 4; symbols++) {
                for (int kind = BEGIN; kind <= SHOW; kind++) {
                    weighEachAlone(states, symbols, kind);
                }
            }
        }
    }

    /** Only the one weight becomes another. */
    private static void weighEachAlone(int states, int symbols, int kind) {
        for (int row = 0; row < 3; row++) {
            for (int column = 0; column < 4; column++) {
                if (has(states, symbols, kind, row, column)) {
                    WeightedTrellis x = plain(states, symbols);
                    String at = "(" + kind + ", " + row + ", " + column;
                    due("weigh" + at + ", 8)", x.weigh(kind, row, column, 8), true);
                    due("weight" + at + ")", x.weight(kind, row, column), 8);
                    due("weigh" + at + ", 1)", x.weigh(kind, row, column, 1), true);
                    dueAllWeightsOne(x, states, symbols);
                }
            }
        }
    }

    private static void weighCountsAtOnce() {
        WeightedTrellis x = small();
        due("weigh to 0", x.weigh(SHOW, 1, 1, 0), true);
        due("total()", x.total(), 24);
        due("ways()", x.ways(), 1);
        dueRanked(x, 0, 24, 0, 0);
        due("weigh to 9", x.weigh(SHOW, 1, 1, 9), true);
        due("total()", x.total(), 24 + 9 * 12 + 9 * 60);
        dueRanked(x, 0, 540, 1, 1);
        due("behind(0, 1)", x.behind(0, 1), 54);
        due("before(1, 1)", x.before(1, 1), 648);
    }

    private static void weighRefusesKinds() {
        for (int bad : outside(0, 2)) {
            WeightedTrellis x = plain(3, 4);
            for (int row = -1; row <= 3; row++) {
                for (int column = -1; column <= 4; column++) {
                    due("weigh kind " + bad, x.weigh(bad, row, column, 5), false);
                }
            }
            dueAllWeightsOne(x, 3, 4);
        }
    }

    private static void weighRefusesRows() {
        for (int states = 1; states <= 3; states++) {
            for (int kind = BEGIN; kind <= SHOW; kind++) {
                for (int bad : outside(0, kind == BEGIN ? 0 : states - 1)) {
                    WeightedTrellis x = plain(states, 4);
                    due("weigh kind " + kind + " row " + bad, x.weigh(kind, bad, 0, 5), false);
                    dueAllWeightsOne(x, states, 4);
                }
            }
        }
    }

    private static void weighRefusesColumns() {
        for (int states = 1; states <= 3; states++) {
            for (int symbols = 1; symbols <= 4; symbols++) {
                for (int kind = BEGIN; kind <= SHOW; kind++) {
                    for (int bad : outside(0, kind == SHOW ? symbols - 1 : states - 1)) {
                        WeightedTrellis x = plain(states, symbols);
                        due("weigh kind " + kind + " column " + bad, x.weigh(kind, 0, bad, 5), false);
                        dueAllWeightsOne(x, states, symbols);
                    }
                }
            }
        }
    }

    private static void weighRefusesWeights() {
        for (int kind = BEGIN; kind <= SHOW; kind++) {
            for (int bad : outside(0, 9)) {
                WeightedTrellis x = plain(2, 2);
                due("weigh to " + bad, x.weigh(kind, 0, 1, bad), false);
                dueAllWeightsOne(x, 2, 2);
            }
            WeightedTrellis x = plain(2, 2);
            due("weigh to 0", x.weigh(kind, 0, 1, 0), true);
            due("weight", x.weight(kind, 0, 1), 0);
            due("weigh to 9", x.weigh(kind, 0, 1, 9), true);
            due("weight", x.weight(kind, 0, 1), 9);
        }
    }

    private static void weightOfNoKind() {
        WeightedTrellis x = wide(3);
        for (int bad : outside(0, 2)) {
            due("weight(" + bad + ", 0, 0)", x.weight(bad, 0, 0), NONE);
            due("weight(" + bad + ", 2, 2)", x.weight(bad, 2, 2), NONE);
        }
    }

    private static void weightOfNoRowOrColumn() {
        for (int states = 1; states <= 3; states++) {
            for (int kind = BEGIN; kind <= SHOW; kind++) {
                WeightedTrellis x = plain(states, states + 1);
                for (int bad : outside(0, kind == BEGIN ? 0 : states - 1)) {
                    due("weight(" + kind + ", " + bad + ", 0)", x.weight(kind, bad, 0), NONE);
                }
                for (int bad : outside(0, kind == SHOW ? states : states - 1)) {
                    due("weight(" + kind + ", 0, " + bad + ")", x.weight(kind, 0, bad), NONE);
                }
            }
        }
        // What was weighed before a lesser size is not there either.
        WeightedTrellis x = heaviest();
        x.size(2, 2);
        dueAllWeightsOne(x, 2, 2);
    }

    private static void seeBehindWhatWasSeen() {
        WeightedTrellis x = plain(1, 4);
        int[] row = {2, 0, 3, 3, 1, 0};
        for (int n = 0; n < 6; n++) {
            due("see(" + row[n] + ")", x.see(row[n]), n + 1);
            for (int p = 0; p <= n; p++) {
                due("symbol(" + p + ")", x.symbol(p), row[p]);
            }
        }
    }

    private static void seeRefusesSymbols() {
        for (int symbols = 1; symbols <= 4; symbols++) {
            for (int n = 0; n < 6; n++) {
                WeightedTrellis x = plain(2, symbols, new int[n]);
                for (int bad : outside(0, symbols - 1)) {
                    due("see(" + bad + ")", x.see(bad), NONE);
                    due("seen()", x.seen(), n);
                }
                due("see the last symbol", x.see(symbols - 1), n + 1);
            }
        }
    }

    private static void seeRefusesTheSeventh() {
        WeightedTrellis x = plain(2, 2, 0, 1, 1, 0, 1);
        due("the sixth", x.see(1), 6);
        due("the seventh", x.see(0), NONE);
        due("the seventh", x.see(1), NONE);
        due("the seventh, no such symbol", x.see(2), NONE);
        due("seen()", x.seen(), 6);
        due("symbol(5)", x.symbol(5), 1);
        due("symbol(6)", x.symbol(6), NONE);
        due("total()", x.total(), 64);
        due("forget(5)", x.forget(5), 1);
        due("the sixth again", x.see(0), 6);
        due("symbol(5)", x.symbol(5), 0);
    }

    private static void forgetFromPlaceOn() {
        int[] row = {3, 1, 2, 0, 3, 2};
        for (int n = 0; n <= 6; n++) {
            for (int p = 0; p <= n; p++) {
                WeightedTrellis x = wide(n);
                due("forget(" + p + ") of " + n, x.forget(p), n - p);
                due("seen()", x.seen(), p);
                for (int q = 0; q < 7; q++) {
                    due("symbol(" + q + ")", x.symbol(q), q < p ? row[q] : NONE);
                }
                due("total()", x.total(), wide(p).total());
                due("ways()", x.ways(), wide(p).ways());
            }
        }
    }

    private static void forgetTwice() {
        WeightedTrellis x = wide(6);
        due("forget(6)", x.forget(6), 0);
        due("forget(3)", x.forget(3), 3);
        due("forget(3) again", x.forget(3), 0);
        due("forget(4) then", x.forget(4), NONE);
        due("forget(0)", x.forget(0), 3);
        due("forget(0) again", x.forget(0), 0);
        due("forget(1) then", x.forget(1), NONE);
    }

    private static void forgetRefusesPlaces() {
        for (int n = 0; n <= 6; n++) {
            WeightedTrellis x = plain(3, 4, new int[n]);
            for (int bad : outside(0, n)) {
                due("forget(" + bad + ") of " + n, x.forget(bad), NONE);
                due("seen()", x.seen(), n);
            }
        }
    }

    private static void seenIsN() {
        WeightedTrellis x = new WeightedTrellis();
        due("seen() of a new object", x.seen(), 0);
        for (int n = 1; n <= 6; n++) {
            x.see(0);
            due("seen()", x.seen(), n);
        }
        x.see(0);
        due("seen() after a refused see()", x.seen(), 6);
        for (int n = 6; n >= 0; n--) {
            x.forget(n);
            due("seen() after forget", x.seen(), n);
        }
    }

    private static void symbolWhereThereIsNone() {
        for (int n = 0; n <= 6; n++) {
            WeightedTrellis x = plain(1, 4, new int[n]);
            for (int bad : outside(0, n - 1)) {
                due("symbol(" + bad + ") of " + n, x.symbol(bad), NONE);
            }
        }
        WeightedTrellis x = wide(6);
        due("symbol(0), the first", x.symbol(0), 3);
        due("symbol(5), the last", x.symbol(5), 2);
        x.forget(5);
        due("symbol(5), forgotten", x.symbol(5), NONE);
        due("symbol(4), kept", x.symbol(4), 3);
        x.size(3, 4);
        due("symbol(0) after size", x.symbol(0), NONE);
    }

    private static void promises1And2() {
        sentence("Promise 1: One state and one symbol, all weights 1",
                BoundariesOfChangesTest::aNewObjectHasOneStateAndOneSymbol);
        sentence("Promise 1: nothing seen", BoundariesOfChangesTest::aNewObjectHasSeenNothing);
        sentence("Promise 1: no way is drawn", BoundariesOfChangesTest::inANewObjectNoWayIsDrawn);
        sentence("Promise 2: So many states and symbols", BoundariesOfChangesTest::sizeOfTheLeastAndTheGreatest);
        sentence("Promise 2: all weights 1", BoundariesOfChangesTest::sizeMakesAllWeightsOne);
        sentence("Promise 2: nothing seen", BoundariesOfChangesTest::afterSizeNothingIsSeen);
        sentence("Promise 2: no way is drawn", BoundariesOfChangesTest::afterSizeNoWayIsDrawn);
        sentence("Promise 2: Refused when states is not 1 .. 3", BoundariesOfChangesTest::sizeRefusesStates);
        sentence("Promise 2: or symbols not 1 .. 4", BoundariesOfChangesTest::sizeRefusesSymbols);
    }

    private static void promises3And4() {
        sentence("Promise 3: A weight becomes w", BoundariesOfChangesTest::weighTheFirstAndTheLastOfEachKind);
        sentence("Promise 3: A weight becomes 0 or 9", BoundariesOfChangesTest::weighCountsAtOnce);
        sentence("Promise 3: Refused when there is no such kind", BoundariesOfChangesTest::weighRefusesKinds);
        sentence("Promise 3: no such row", BoundariesOfChangesTest::weighRefusesRows);
        sentence("Promise 3: or column", BoundariesOfChangesTest::weighRefusesColumns);
        sentence("Promise 3: or w is not 0 .. 9", BoundariesOfChangesTest::weighRefusesWeights);
        sentence("Promise 4: NONE when there is no such kind", BoundariesOfChangesTest::weightOfNoKind);
        sentence("Promise 4: NONE when there is no such row or column",
                BoundariesOfChangesTest::weightOfNoRowOrColumn);
    }

    private static void promises5To8() {
        sentence("Promise 5: Symbol k is seen behind what was seen",
                BoundariesOfChangesTest::seeBehindWhatWasSeen);
        sentence("Promise 5: refused when there is no such symbol", BoundariesOfChangesTest::seeRefusesSymbols);
        sentence("Promise 5: or 6 were seen", BoundariesOfChangesTest::seeRefusesTheSeventh);
        sentence("Promise 6: What was seen from place p on is forgotten",
                BoundariesOfChangesTest::forgetFromPlaceOn);
        sentence("Promise 6: Answers how many that were", BoundariesOfChangesTest::forgetTwice);
        sentence("Promise 6: refused when p is not 0 .. n", BoundariesOfChangesTest::forgetRefusesPlaces);
        sentence("Promise 7: n", BoundariesOfChangesTest::seenIsN);
        sentence("Promise 8: NONE when there is none", BoundariesOfChangesTest::symbolWhereThereIsNone);
    }

    public static void main(String[] args) {
        promises1And2();
        promises3And4();
        promises5To8();
        close();
    }
}
