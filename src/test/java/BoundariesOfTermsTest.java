/** The boundary cases that the document's head and its terms name, sentence by sentence. */
public final class BoundariesOfTermsTest extends Trial {
    private static void fiveHundredAndTwelveCalls() {
        WeightedTrellis x = new WeightedTrellis();
        for (int call = 1; call <= 510; call += 2) {
            due("see(0), call " + call, x.see(0), 1);
            due("forget(0), call " + (call + 1), x.forget(0), 1);
        }
        due("see(0), call 511", x.see(0), 1);
        due("draw(0), call 512", x.draw(0), true);
    }

    private static void statesFromOneToThree() {
        for (int states = 1; states <= 3; states++) {
            for (int s = -1; s <= 4; s++) {
                WeightedTrellis x = plain(states, 2, 0);
                boolean there = s >= 0 && s < states;
                due("begin of state " + s, x.weight(BEGIN, 0, s), there ? 1 : NONE);
                due("step from state " + s, x.weight(STEP, s, 0), there ? 1 : NONE);
                due("step to state " + s, x.weight(STEP, 0, s), there ? 1 : NONE);
                due("show in state " + s, x.weight(SHOW, s, 0), there ? 1 : NONE);
                due("before(0, " + s + ")", x.before(0, s), there ? 1 : 0);
                due("total()", x.total(), states);
            }
        }
    }

    private static void symbolsFromOneToFour() {
        for (int symbols = 1; symbols <= 4; symbols++) {
            for (int k = -1; k <= 5; k++) {
                WeightedTrellis x = plain(2, symbols);
                boolean there = k >= 0 && k < symbols;
                due("show of symbol " + k, x.weight(SHOW, 1, k), there ? 1 : NONE);
                due("see(" + k + ") of " + symbols, x.see(k), there ? 1 : NONE);
                due("symbol(0)", x.symbol(0), there ? k : NONE);
            }
        }
    }

    private static void weightsFromNoughtToNine() {
        WeightedTrellis x = plain(1, 1, 0, 0);
        for (int kind = BEGIN; kind <= SHOW; kind++) {
            for (int w = 0; w <= 9; w++) {
                due("weigh kind " + kind + " to " + w, x.weigh(kind, 0, 0, w), true);
                due("weight of kind " + kind, x.weight(kind, 0, 0), w);
                due("total()", x.total(), kind == SHOW ? w * w : w);
            }
            x.weigh(kind, 0, 0, 1);
        }
    }

    private static void stepsAlsoToItself() {
        for (int states = 1; states <= 3; states++) {
            for (int s = 0; s < states; s++) {
                WeightedTrellis x = plain(states, 1, 0, 0);
                due("weigh the step to itself", x.weigh(STEP, s, s, 5), true);
                due("weight of the step to itself", x.weight(STEP, s, s), 5);
                due("total()", x.total(), states * states + 4);
                dueRanked(x, 0, 5, s, s);
            }
        }
    }

    private static void seenFromNoughtToSix() {
        WeightedTrellis x = plain(2, 4);
        int[] row = {3, 0, 2, 2, 1, 3};
        for (int n = 0; n <= 6; n++) {
            due("seen()", x.seen(), n);
            for (int p = -1; p <= 7; p++) {
                due("symbol(" + p + ") of " + n, x.symbol(p), p >= 0 && p < n ? row[p] : NONE);
            }
            due("see behind " + n, n < 6 ? x.see(row[n]) : x.see(0), n < 6 ? n + 1 : NONE);
        }
    }

    private static void wayOfOnePlaceAndOfSix() {
        int[][] rows = {{7}, {3}, {2, 5}};
        due("a way without a step", made(2, rows, 1).total(), 7 * 5);
        due("a way with one step", made(2, rows, 1, 0).total(), 7 * 5 * 3 * 2);
        due("a way with five steps", made(2, rows, 1, 0, 0, 1, 1, 0).total(), 7 * 243 * 1000);
        due("the last symbol counts", made(2, rows, 0, 0, 0, 0, 0, 1).total(), 7 * 243 * 32 * 5);
        due("the heaviest way there can be", heaviest().ranked(0), NINES);
    }

    private static void wayWithoutStatesWeighsOne() {
        WeightedTrellis[] empty = {new WeightedTrellis(), plain(3, 4), small(), weightless()};
        empty[2].forget(0);
        empty[3].forget(0);
        for (WeightedTrellis x : empty) {
            due("total()", x.total(), 1);
            due("ways()", x.ways(), 1);
            dueRanked(x, 0, 1, NONE);
            dueRanked(x, 1, 0, NONE);
        }
        WeightedTrellis noughts = made(1, new int[][] {{0}, {0}, {0}});
        due("total() where all weights are 0", noughts.total(), 1);
        due("ways() where all weights are 0", noughts.ways(), 1);
        due("ranked(0) where all weights are 0", noughts.ranked(0), 1);
    }

    private static void totalOfAllWays() {
        due("ways of which one weighs 0", small().total(), 24 + 12 + 0 + 60);
        due("ways that all weigh 0", weightless().total(), 0);
        due("as many ways as there can be", plain(3, 1, 0, 0, 0, 0, 0, 0).total(), 729);
        due("the greatest total there can be", heaviest().total(), 729 * NINES);
    }

    private static void firstPlaceIsComparedFirst() {
        WeightedTrellis x = plain(3, 1, 0, 0);
        for (int i = 0; i < 9; i++) {
            dueRanked(x, i, 1, i / 3, i % 3, NONE);
            due("draw(" + i + ")", x.draw(i), true);
            dueDrawn(x, i / 3, i % 3);
        }
    }

    private static void ofTheSameWeightTheOneThatComesBefore() {
        // 00: 2, 01: 2, 10: 3, 11: 2.
        WeightedTrellis x = made(1, new int[][] {{1, 1}, {2, 2}, {3, 2}, {1}, {1}}, 0, 0);
        dueRanked(x, 0, 3, 1, 0);
        dueRanked(x, 1, 2, 0, 0);
        dueRanked(x, 2, 2, 0, 1);
        dueRanked(x, 3, 2, 1, 1);
        dueRanked(x, 4, 0, NONE, NONE);
    }

    private static void ranksOnlyOfWaysThatAreNotNought() {
        // The ways that weigh 0 come before all others.
        WeightedTrellis x = made(1, new int[][] {{0, 0, 1}, {1, 1, 1}, {1, 1, 1}, {0, 0, 1}, {1}, {1}, {1}}, 0, 0);
        dueRanked(x, 0, 1, 2, 2);
        dueRanked(x, 1, 0, NONE, NONE);
        dueRanked(weightless(), 0, 0, NONE, NONE);
    }

    private static void fractionsHaveNoCommonDivisor() {
        WeightedTrellis x = small();
        dueShare(x, BEGIN, 0, 0, 3, 8);
        dueShare(x, BEGIN, 1, 1, 3, 4);
        dueLearned(x, STEP, 0, 1, 1, 3);
        dueShare(plain(1, 1, 0, 0, 0), BEGIN, 2, 0, 1, 1);
        dueShare(plain(1, 1, 0, 0, 0), SHOW, 0, 0, 3, 1);
        dueShare(heaviest(), BEGIN, 5, 2, 1, 3);
        dueShare(heaviest(), STEP, 2, 2, 5, 9);
        dueShare(heaviest(), SHOW, 2, 3, 2, 1);
        dueLearned(heaviest(), STEP, 2, 0, 1, 3);
        WeightedTrellis y = made(1, new int[][] {{9, 8}, {9, 8}, {7, 9}, {9}, {8}}, 0, 0, 0, 0, 0, 0);
        dueShare(y, BEGIN, 0, 0, 1247609781L, 2158785653L);
        dueShare(y, BEGIN, 5, 1, 5227188288L, 10793928265L);
        dueShare(y, STEP, 1, 0, 11850433728L, 10793928265L);
        dueShare(y, SHOW, 1, 0, 29819858688L, 10793928265L);
        dueLearned(y, STEP, 1, 0, 61721009, 128086825);
    }

    private static void denominatorOfNoughtIsOne() {
        WeightedTrellis x = small();
        dueShare(x, STEP, 1, 0, 0, 1);
        dueLearned(x, STEP, 1, 0, 0, 1);
        x.weigh(BEGIN, 0, 0, 0);
        dueShare(x, BEGIN, 0, 0, 0, 1);
        dueLearned(x, BEGIN, 0, 0, 0, 1);
        dueShare(plain(2, 2, 0, 0), SHOW, 1, 1, 0, 1);
        dueLearned(plain(2, 2, 0, 0), SHOW, 1, 1, 0, 1);
    }

    private static void sharesAreNoughtWithoutTotal() {
        WeightedTrellis x = weightless();
        for (int row = 0; row < 2; row++) {
            for (int column = 0; column < 2; column++) {
                dueShare(x, BEGIN, row, column, 0, 1);
                dueShare(x, STEP, row, column, 0, 1);
                dueShare(x, SHOW, row, column, 0, 1);
            }
        }
    }

    private static void shareOfAStateAtTheFirstAndTheLastPlace() {
        WeightedTrellis x = small();
        dueShare(x, BEGIN, 0, 0, 3, 8);
        dueShare(x, BEGIN, 0, 1, 5, 8);
        dueShare(x, BEGIN, 1, 0, 1, 4);
        dueShare(x, BEGIN, 1, 1, 3, 4);
        x.forget(1);
        dueShare(x, BEGIN, 0, 0, 3, 8);
        dueShare(plain(3, 1, 0, 0, 0, 0, 0, 0), BEGIN, 5, 2, 1, 3);
    }

    private static void shareOfAStepNeedsANextPlace() {
        for (int n = 0; n <= 6; n++) {
            WeightedTrellis x = plain(1, 1, new int[n]);
            dueShare(x, STEP, 0, 0, n < 2 ? 0 : n - 1, 1);
        }
        // Of 000 two steps, of 001 and 100 one each, by eight ways.
        dueShare(plain(2, 1, 0, 0, 0), STEP, 0, 0, 1, 2);
        // Of 001, 010, 011 and 101 one each.
        dueShare(plain(2, 1, 0, 0, 0), STEP, 0, 1, 1, 2);
    }

    private static void shareOfASymbolWhereItIsSeen() {
        WeightedTrellis x = plain(1, 4, 2, 2, 1, 2, 2, 3);
        dueShare(x, SHOW, 0, 0, 0, 1);
        dueShare(x, SHOW, 0, 1, 1, 1);
        dueShare(x, SHOW, 0, 2, 4, 1);
        dueShare(x, SHOW, 0, 3, 1, 1);
        dueShare(plain(3, 2, 1, 1, 1, 1), SHOW, 2, 1, 4, 3);
        dueShare(plain(3, 2), SHOW, 2, 1, 0, 1);
    }

    private static void learnedBeginIsTheShareAtPlaceNought() {
        WeightedTrellis x = small();
        dueLearned(x, BEGIN, 0, 0, 3, 8);
        dueLearned(x, BEGIN, 0, 1, 5, 8);
        x.forget(1);
        dueLearned(x, BEGIN, 0, 0, 3, 8);
        due("weigh the show", x.weigh(SHOW, 1, 0, 0), true);
        dueLearned(x, BEGIN, 0, 0, 1, 1);
        dueLearned(x, BEGIN, 0, 1, 0, 1);
    }

    private static void learnedIsWhatThereIsNowWhereNothingDivides() {
        int[][] rows = {{1, 0}, {0, 3}, {2, 4}, {1, 3, 0}, {5, 1, 4}};
        // One way, 01: no step goes from state 1.
        WeightedTrellis x = made(3, rows, 0, 1);
        dueLearned(x, STEP, 0, 0, 0, 1);
        dueLearned(x, STEP, 0, 1, 1, 1);
        dueLearned(x, STEP, 1, 0, 1, 3);
        dueLearned(x, STEP, 1, 1, 2, 3);
        // One way, 0: no way goes through state 1, and there is no step.
        x.forget(1);
        dueLearned(x, STEP, 0, 1, 1, 1);
        dueLearned(x, STEP, 1, 0, 1, 3);
        dueLearned(x, SHOW, 0, 1, 0, 1);
        dueLearned(x, SHOW, 1, 0, 1, 2);
        dueLearned(x, SHOW, 1, 2, 2, 5);
        // Nothing is seen.
        x.forget(0);
        dueLearned(x, SHOW, 0, 1, 3, 4);
        dueLearned(x, SHOW, 0, 2, 0, 1);
    }

    private static void learnedBeginWithoutTotalOrNothingSeen() {
        WeightedTrellis x = weightless();
        dueLearned(x, BEGIN, 0, 0, 2, 7);
        dueLearned(x, BEGIN, 0, 1, 5, 7);
        WeightedTrellis y = small();
        y.forget(0);
        dueLearned(y, BEGIN, 0, 0, 2, 7);
        dueLearned(y, BEGIN, 0, 1, 5, 7);
        dueLearned(plain(3, 4), BEGIN, 0, 2, 1, 3);
        dueLearned(new WeightedTrellis(), BEGIN, 0, 0, 1, 1);
    }

    private static void learnedStepsAndShowsWithoutTotal() {
        WeightedTrellis x = weightless();
        dueLearned(x, STEP, 0, 0, 1, 3);
        dueLearned(x, STEP, 0, 1, 2, 3);
        dueLearned(x, STEP, 1, 0, 0, 1);
        dueLearned(x, STEP, 1, 1, 1, 1);
        dueLearned(x, SHOW, 0, 0, 0, 1);
        dueLearned(x, SHOW, 0, 1, 1, 1);
    }

    private static void learnedIsNoughtWhereTheRowIs() {
        int[][] rows = {{0, 0}, {0, 0}, {1, 1}, {1, 1}, {0, 0}};
        for (int n = 0; n <= 2; n++) {
            WeightedTrellis x = made(2, rows, new int[n]);
            for (int c = 0; c < 2; c++) {
                dueLearned(x, BEGIN, 0, c, 0, 1);
                dueLearned(x, STEP, 0, c, 0, 1);
                dueLearned(x, STEP, 1, c, 1, 2);
                dueLearned(x, SHOW, 0, c, 1, 2);
                dueLearned(x, SHOW, 1, c, 0, 1);
            }
        }
    }

    private static void refusedSizeChangesNothing() {
        for (int bad : outside(1, 3)) {
            dueUnchanged("size(" + bad + ", 2)", 4, x -> due("size", x.size(bad, 2), false));
        }
        for (int bad : outside(1, 4)) {
            dueUnchanged("size(2, " + bad + ")", 4, x -> due("size", x.size(2, bad), false));
        }
    }

    private static void refusedWeighChangesNothing() {
        for (int kind = BEGIN; kind <= SHOW; kind++) {
            int k = kind;
            for (int bad : outside(0, 9)) {
                dueUnchanged("weigh to " + bad, 4, x -> due("weigh", x.weigh(k, 0, 1, bad), false));
            }
            for (int bad : outside(0, k == BEGIN ? 0 : 2)) {
                dueUnchanged("weigh row " + bad, 4, x -> due("weigh", x.weigh(k, bad, 1, 7), false));
            }
            for (int bad : outside(0, k == SHOW ? 3 : 2)) {
                dueUnchanged("weigh column " + bad, 4, x -> due("weigh", x.weigh(k, 0, bad, 7), false));
            }
        }
        for (int bad : outside(0, 2)) {
            dueUnchanged("weigh kind " + bad, 4, x -> due("weigh", x.weigh(bad, 0, 1, 7), false));
        }
    }

    private static void refusedSeeChangesNothing() {
        for (int bad : outside(0, 3)) {
            dueUnchanged("see(" + bad + ")", 4, x -> due("see", x.see(bad), NONE));
        }
        for (int k = 0; k < 4; k++) {
            int symbol = k;
            dueUnchanged("the seventh see(" + k + ")", 6, x -> due("see", x.see(symbol), NONE));
        }
    }

    private static void refusedForgetChangesNothing() {
        for (int n = 0; n <= 6; n++) {
            for (int bad : outside(0, n)) {
                dueUnchanged("forget(" + bad + ") of " + n, n, x -> due("forget", x.forget(bad), NONE));
            }
        }
    }

    private static void refusedDrawChangesNothing() {
        long total = wide(4).total();
        long[] refused = {-1, total, total + 1, 1L << 32, Long.MIN_VALUE, Long.MAX_VALUE};
        for (long u : refused) {
            dueUnchanged("draw(" + u + ")", 4, x -> due("draw", x.draw(u), false));
        }
    }

    private static void wrongQuestionsChangeNothing() {
        for (int bad : outside(0, 11)) {
            dueUnchanged("questions of " + bad, 4, x -> {
                due("weight kind", x.weight(bad, 0, 0), NONE);
                due("weight row", x.weight(STEP, bad, 0), NONE);
                due("weight column", x.weight(SHOW, 0, bad), NONE);
                due("symbol", x.symbol(bad), NONE);
                due("before", x.before(bad, bad), 0);
                due("behind", x.behind(bad, bad), 0);
                due("ranked", x.ranked(bad), 0);
                due("stateOf", x.stateOf(bad, bad), NONE);
                due("drawn", x.drawn(bad), NONE);
                for (int kind = BEGIN; kind <= SHOW; kind++) {
                    dueShare(x, kind, bad, bad, 0, 0);
                    dueLearned(x, kind, bad, bad, 0, 0);
                    due("share part", x.share(kind, 0, 0, bad), 0);
                    due("learned part", x.learned(kind, 0, 0, bad), 0);
                }
            });
        }
    }

    private static void rowsAndColumnsOfTheKinds() {
        due("NONE", NONE, -1);
        due("BEGIN", BEGIN, 0);
        due("STEP", STEP, 1);
        due("SHOW", SHOW, 2);
        WeightedTrellis x = plain(3, 4, 3, 1);
        due("begin of 2", x.weigh(BEGIN, 0, 2, 5), true);
        due("step from 2 to 1", x.weigh(STEP, 2, 1, 7), true);
        due("show of 3 in 2", x.weigh(SHOW, 2, 3, 3), true);
        dueRanked(x, 0, 5 * 3 * 7, 2, 1);
        due("begin row 2", x.weight(BEGIN, 2, 0), NONE);
        due("step from 1 to 2", x.weight(STEP, 1, 2), 1);
        due("show of 4", x.weight(SHOW, 2, 4), NONE);
        due("show in 3", x.weight(SHOW, 3, 2), NONE);
    }

    private static void ways() {
        sentence("An object is used for at most 512 calls", BoundariesOfTermsTest::fiveHundredAndTwelveCalls);
        sentence("There are S STATES 0 .. S - 1 (S from 1 to 3)", BoundariesOfTermsTest::statesFromOneToThree);
        sentence("and K SYMBOLS 0 .. K - 1 (K from 1 to 4)", BoundariesOfTermsTest::symbolsFromOneToFour);
        sentence("WEIGHTS are 0 .. 9", BoundariesOfTermsTest::weightsFromNoughtToNine);
        sentence("STEP from each state to each state (also to itself)", BoundariesOfTermsTest::stepsAlsoToItself);
        sentence("SEEN is a row of n symbols (n from 0 to 6); their places are 0 .. n - 1",
                BoundariesOfTermsTest::seenFromNoughtToSix);
        sentence("Its weight is the product of: begin, the steps and the shows",
                BoundariesOfTermsTest::wayOfOnePlaceAndOfSix);
        sentence("The weight of the way without states (n = 0) is 1",
                BoundariesOfTermsTest::wayWithoutStatesWeighsOne);
        sentence("The TOTAL is the sum of the weights of all ways", BoundariesOfTermsTest::totalOfAllWays);
        sentence("A way COMES BEFORE another: the first place compared first, the less state first",
                BoundariesOfTermsTest::firstPlaceIsComparedFirst);
        sentence("HEAVIER: or the same and it comes before it",
                BoundariesOfTermsTest::ofTheSameWeightTheOneThatComesBefore);
        sentence("RANK: counting only ways whose weight is not 0",
                BoundariesOfTermsTest::ranksOnlyOfWaysThatAreNotNought);
    }

    private static void fractions() {
        sentence("A FRACTION is answered without a common divisor",
                BoundariesOfTermsTest::fractionsHaveNoCommonDivisor);
        sentence("the denominator is above 0, and that of 0 is 1",
                BoundariesOfTermsTest::denominatorOfNoughtIsOne);
        sentence("SHARES are 0 when the total is 0", BoundariesOfTermsTest::sharesAreNoughtWithoutTotal);
        sentence("The share of state s at place p", BoundariesOfTermsTest::shareOfAStateAtTheFirstAndTheLastPlace);
        sentence("The share of a step: places where a way has s and at the next place t",
                BoundariesOfTermsTest::shareOfAStepNeedsANextPlace);
        sentence("The share of symbol k in s: places where k is seen and a way has s",
                BoundariesOfTermsTest::shareOfASymbolWhereItIsSeen);
        sentence("LEARNED for begin of s is the share of s at place 0",
                BoundariesOfTermsTest::learnedBeginIsTheShareAtPlaceNought);
        sentence("When what it would be divided by is 0, it is what there is now",
                BoundariesOfTermsTest::learnedIsWhatThereIsNowWhereNothingDivides);
        sentence("(for begin: when the total is 0 or nothing is seen)",
                BoundariesOfTermsTest::learnedBeginWithoutTotalOrNothingSeen);
        sentence("what there is now, for steps and shows when the total is 0",
                BoundariesOfTermsTest::learnedStepsAndShowsWithoutTotal);
        sentence("and 0 when that is 0", BoundariesOfTermsTest::learnedIsNoughtWhereTheRowIs);
    }

    private static void refusals() {
        sentence("A refused size() changes nothing", BoundariesOfTermsTest::refusedSizeChangesNothing);
        sentence("A refused weigh() changes nothing", BoundariesOfTermsTest::refusedWeighChangesNothing);
        sentence("A refused see() changes nothing", BoundariesOfTermsTest::refusedSeeChangesNothing);
        sentence("A refused forget() changes nothing", BoundariesOfTermsTest::refusedForgetChangesNothing);
        sentence("A refused draw() changes nothing", BoundariesOfTermsTest::refusedDrawChangesNothing);
        sentence("A question of what is not there changes nothing",
                BoundariesOfTermsTest::wrongQuestionsChangeNothing);
    }

    public static void main(String[] args) {
        ways();
        fractions();
        refusals();
        sentence("BEGIN (row and column: 0 and s), STEP (s and t), SHOW (s and k)",
                BoundariesOfTermsTest::rowsAndColumnsOfTheKinds);
        close();
    }
}
