/** The boundary cases that promises 9 to 19 name: what is summed, ranked, shared, learned and drawn. */
public final class BoundariesOfAnswersTest extends Trial {
    private static void totalOfNothingOneAndAll() {
        due("nothing seen", plain(3, 4).total(), 1);
        due("one place", plain(3, 4, 0).total(), 3);
        due("six places", plain(3, 4, 0, 1, 2, 3, 0, 1).total(), 729);
        due("no way weighs", weightless().total(), 0);
        due("the greatest", heaviest().total(), 729 * NINES);
        WeightedTrellis x = small();
        x.forget(1);
        due("one place left", x.total(), 2 * 3 + 5 * 2);
        x.forget(0);
        due("no place left", x.total(), 1);
    }

    private static void beforeAtTheFirstAndTheLastPlace() {
        WeightedTrellis x = small();
        due("before(0, 0), no step", x.before(0, 0), 2 * 3);
        due("before(0, 1), no step", x.before(0, 1), 5 * 2);
        due("before(1, 0), all of it", x.before(1, 0), 24);
        due("before(1, 1), all of it", x.before(1, 1), 12 + 60);
        // What is behind the place does not count.
        due("weigh", x.weigh(SHOW, 0, 1, 0), true);
        due("before(0, 0)", x.before(0, 0), 2 * 3);
        due("before(1, 0)", x.before(1, 0), 0);
        due("the greatest", heaviest().before(5, 0), 243 * NINES);
    }

    private static void beforeOfNoPlace() {
        for (int n = 0; n <= 6; n++) {
            WeightedTrellis x = plain(3, 1, new int[n]);
            for (int bad : outside(0, n - 1)) {
                due("before(" + bad + ", 0) of " + n, x.before(bad, 0), 0);
                due("before(" + bad + ", 2) of " + n, x.before(bad, 2), 0);
            }
        }
        WeightedTrellis x = wide(6);
        x.forget(3);
        due("before a forgotten place", x.before(3, 0), 0);
    }

    private static void beforeOfNoState() {
        for (int states = 1; states <= 3; states++) {
            WeightedTrellis x = heaviest();
            x.size(states, 1);
            seeAll(x, 0, 0, 0);
            for (int bad : outside(0, states - 1)) {
                for (int p = 0; p < 3; p++) {
                    due("before(" + p + ", " + bad + ")", x.before(p, bad), 0);
                }
            }
        }
    }

    private static void behindOnTheWay() {
        WeightedTrellis x = small();
        due("behind(0, 0)", x.behind(0, 0), 1 * 4 + 2 * 1);
        due("behind(0, 1)", x.behind(0, 1), 0 * 4 + 6 * 1);
        // Begin and the show at the place itself do not count.
        x.weigh(BEGIN, 0, 0, 0);
        x.weigh(SHOW, 0, 0, 0);
        due("behind(0, 0)", x.behind(0, 0), 1 * 4 + 2 * 1);
        due("the greatest", heaviest().behind(0, 2), 243 * 3486784401L);
    }

    private static void behindTheLastPlaceIsOne() {
        for (int n = 1; n <= 6; n++) {
            WeightedTrellis x = made(1, new int[][] {{0, 3}, {0, 0}, {2, 5}, {0}, {7}}, new int[n]);
            due("behind(n - 1, 0)", x.behind(n - 1, 0), 1);
            due("behind(n - 1, 1)", x.behind(n - 1, 1), 1);
        }
        WeightedTrellis x = wide(6);
        x.forget(2);
        due("behind what is the last now", x.behind(1, 2), 1);
    }

    private static void behindOfNoPlace() {
        for (int n = 0; n <= 6; n++) {
            WeightedTrellis x = plain(3, 1, new int[n]);
            for (int bad : outside(0, n - 1)) {
                due("behind(" + bad + ", 0) of " + n, x.behind(bad, 0), 0);
                due("behind(" + bad + ", 2) of " + n, x.behind(bad, 2), 0);
            }
        }
        WeightedTrellis x = wide(6);
        x.forget(3);
        due("behind a forgotten place", x.behind(3, 0), 0);
    }

    private static void behindOfNoState() {
        for (int states = 1; states <= 3; states++) {
            WeightedTrellis x = heaviest();
            x.size(states, 1);
            seeAll(x, 0, 0, 0);
            for (int bad : outside(0, states - 1)) {
                for (int p = 0; p < 3; p++) {
                    due("behind(" + p + ", " + bad + ")", x.behind(p, bad), 0);
                }
            }
        }
    }

    private static void waysFromNoughtToAll() {
        due("no way weighs", weightless().ways(), 0);
        due("nothing seen", plain(3, 4).ways(), 1);
        due("one state", plain(1, 1, 0, 0, 0, 0, 0, 0).ways(), 1);
        due("one of four weighs 0", small().ways(), 3);
        due("two states", plain(2, 1, 0, 0, 0, 0, 0, 0).ways(), 64);
        due("three states", plain(3, 1, 0, 0, 0, 0, 0, 0).ways(), 729);
        due("the heaviest", heaviest().ways(), 729);
        WeightedTrellis x = weightless();
        x.forget(0);
        due("nothing seen any more", x.ways(), 1);
    }

    /** Eleven ways, 000, 001, 002, 010, 020, 100, 101, 102, 200, 201, 202. */
    private static WeightedTrellis elevenWays() {
        return made(1, new int[][] {{1, 1, 1}, {1, 1, 1}, {1, 0, 0}, {1, 0, 0}, {1}, {1}, {1}}, 0, 0, 0);
    }

    /** Twelve ways: symbol 1 is shown by states 0 and 1 alone. */
    private static WeightedTrellis twelveWays() {
        WeightedTrellis x = plain(3, 2, 0, 1, 1);
        due("weigh", x.weigh(SHOW, 2, 1, 0), true);
        return x;
    }

    /** Thirteen ways: five places without a step from 1 to 1. */
    private static WeightedTrellis thirteenWays() {
        WeightedTrellis x = plain(2, 1, 0, 0, 0, 0, 0);
        due("weigh", x.weigh(STEP, 1, 1, 0), true);
        return x;
    }

    private static void rankedUpToTheLastWay() {
        due("eleven", elevenWays().ways(), 11);
        dueRanked(elevenWays(), 10, 1, 2, 0, 2);
        dueRanked(elevenWays(), 11, 0, NONE, NONE, NONE);
        due("twelve", twelveWays().ways(), 12);
        dueRanked(twelveWays(), 11, 1, 2, 1, 1);
        dueRanked(twelveWays(), 12, 0, NONE, NONE, NONE);
        due("thirteen", thirteenWays().ways(), 13);
        dueRanked(thirteenWays(), 11, 1, 1, 0, 1, 0, 0);
        dueRanked(thirteenWays(), 12, 0, NONE, NONE, NONE, NONE, NONE);
    }

    private static void rankedOfNoWay() {
        due("no way weighs", weightless().ranked(0), 0);
        due("nothing seen", plain(3, 4).ranked(1), 0);
        WeightedTrellis x = wide(6);
        x.forget(0);
        for (int i = 1; i < 12; i++) {
            due("ranked(" + i + ") after forget", x.ranked(i), 0);
        }
        due("three ways", small().ranked(2), 12);
        due("three ways", small().ranked(3), 0);
    }

    private static void rankedBeyondTwelve() {
        WeightedTrellis x = heaviest();
        due("ranked(11)", x.ranked(11), NINES);
        for (int bad : outside(0, 11)) {
            due("ranked(" + bad + ")", x.ranked(bad), 0);
        }
    }

    /** Later ways are heavier here, so each one pushes the lightest out of the twelve. */
    private static void rankedWhereTheLastAreTheHeaviest() {
        WeightedTrellis x = made(1, new int[][] {{1, 4, 9}, {1, 2, 3}, {1, 2, 3}, {1, 2, 3}, {1}, {1}, {1}}, 0, 0);
        int[][] ways = {{2, 2}, {2, 1}, {1, 2}, {2, 0}, {1, 1}, {1, 0}, {0, 2}, {0, 1}, {0, 0}};
        long[] weights = {27, 18, 12, 9, 8, 4, 3, 2, 1};
        for (int i = 0; i < ways.length; i++) {
            dueRanked(x, i, weights[i], ways[i]);
        }
        seeAll(x, 0);
        dueRanked(x, 0, 81, 2, 2, 2);
        dueRanked(x, 1, 54, 2, 1, 2);
        dueRanked(x, 2, 54, 2, 2, 1);
        dueRanked(x, 11, 16, 1, 1, 1);
    }

    private static void stateOfNoWay() {
        WeightedTrellis x = small();
        for (int p = 0; p < 2; p++) {
            due("stateOf(2, " + p + ")", x.stateOf(2, p), p);
            due("stateOf(3, " + p + ")", x.stateOf(3, p), NONE);
            due("no way weighs", weightless().stateOf(0, p), NONE);
        }
    }

    private static void stateOfNoPlace() {
        for (int n = 0; n <= 6; n++) {
            WeightedTrellis x = plain(3, 1, new int[n]);
            for (int bad : outside(0, n - 1)) {
                due("stateOf(0, " + bad + ") of " + n, x.stateOf(0, bad), NONE);
                due("stateOf(2, " + bad + ") of " + n, x.stateOf(2, bad), NONE);
            }
        }
    }

    private static void stateOfBeyondTwelve() {
        WeightedTrellis x = heaviest();
        for (int p = 0; p < 6; p++) {
            due("stateOf(11, " + p + ")", x.stateOf(11, p), new int[] {0, 0, 0, 1, 0, 2}[p]);
        }
        for (int bad : outside(0, 11)) {
            due("stateOf(" + bad + ", 0)", x.stateOf(bad, 0), NONE);
            due("stateOf(" + bad + ", 5)", x.stateOf(bad, 5), NONE);
        }
    }

    private static void shareOfNoKind() {
        WeightedTrellis x = wide(6);
        for (int bad : outside(0, 2)) {
            dueShare(x, bad, 0, 0, 0, 0);
            dueShare(x, bad, 2, 2, 0, 0);
        }
    }

    private static void shareOfNoPlace() {
        for (int n = 0; n <= 6; n++) {
            WeightedTrellis x = plain(2, 1, new int[n]);
            for (int bad : outside(0, n - 1)) {
                dueShare(x, BEGIN, bad, 0, 0, 0);
            }
            for (int p = 0; p < n; p++) {
                dueShare(x, BEGIN, p, 1, 1, 2);
            }
        }
    }

    private static void shareOfNoState() {
        for (int states = 1; states <= 3; states++) {
            WeightedTrellis x = plain(states, 4, 0, 0, 0);
            for (int bad : outside(0, states - 1)) {
                dueShare(x, BEGIN, 1, bad, 0, 0);
                dueShare(x, STEP, bad, 0, 0, 0);
                dueShare(x, STEP, 0, bad, 0, 0);
                dueShare(x, SHOW, bad, 0, 0, 0);
            }
            // The places, unlike the states, are three.
            dueShare(x, BEGIN, 2, 0, 1, states);
        }
    }

    private static void shareOfNoSymbol() {
        for (int symbols = 1; symbols <= 4; symbols++) {
            WeightedTrellis x = plain(2, symbols, symbols - 1, symbols - 1);
            for (int bad : outside(0, symbols - 1)) {
                dueShare(x, SHOW, 0, bad, 0, 0);
                dueShare(x, SHOW, 1, bad, 0, 0);
            }
            dueShare(x, SHOW, 1, symbols - 1, 1, 1);
        }
    }

    private static void shareOfNoPart() {
        for (int bad : outside(0, 1)) {
            for (int kind = BEGIN; kind <= SHOW; kind++) {
                due("share part " + bad, small().share(kind, 0, 0, bad), 0);
                due("share part " + bad + " without total", weightless().share(kind, 0, 0, bad), 0);
            }
        }
    }

    private static void sharesOfNothingSeen() {
        WeightedTrellis x = plain(2, 2);
        for (int row = 0; row < 2; row++) {
            for (int column = 0; column < 2; column++) {
                dueShare(x, BEGIN, row, column, 0, 0);
                dueShare(x, STEP, row, column, 0, 1);
                dueShare(x, SHOW, row, column, 0, 1);
            }
        }
    }

    private static void learnedOfNoKind() {
        WeightedTrellis x = wide(6);
        for (int bad : outside(0, 2)) {
            dueLearned(x, bad, 0, 0, 0, 0);
            dueLearned(x, bad, 2, 2, 0, 0);
        }
    }

    private static void learnedOfNoRow() {
        for (int states = 1; states <= 3; states++) {
            for (int kind = BEGIN; kind <= SHOW; kind++) {
                WeightedTrellis x = plain(states, 4, 0, 0, 0, 0);
                for (int bad : outside(0, kind == BEGIN ? 0 : states - 1)) {
                    dueLearned(x, kind, bad, 0, 0, 0);
                }
            }
        }
    }

    private static void learnedOfNoColumn() {
        for (int states = 1; states <= 3; states++) {
            for (int kind = BEGIN; kind <= SHOW; kind++) {
                WeightedTrellis x = plain(states, states + 1, 0, 0, 0, 0);
                for (int bad : outside(0, kind == SHOW ? states : states - 1)) {
                    dueLearned(x, kind, 0, bad, 0, 0);
                    dueLearned(x, kind, states - 1, bad, 0, 0);
                }
            }
        }
    }

    private static void learnedOfNoPart() {
        for (int bad : outside(0, 1)) {
            for (int kind = BEGIN; kind <= SHOW; kind++) {
                due("learned part " + bad, small().learned(kind, 0, 0, bad), 0);
                due("learned part " + bad + " of nothing seen", plain(2, 2).learned(kind, 0, 0, bad), 0);
            }
        }
    }

    /** The weights after learn() are nine times what a twin says that is learned. */
    private static void learnIsNineTimesWhatIsLearned() {
        for (int n = 0; n <= 6; n++) {
            WeightedTrellis x = wide(n);
            WeightedTrellis twin = wide(n);
            int answer = x.learn();
            int sum = 0;
            for (int kind = BEGIN; kind <= SHOW; kind++) {
                for (int row = 0; row < (kind == BEGIN ? 1 : 3); row++) {
                    for (int column = 0; column < (kind == SHOW ? 4 : 3); column++) {
                        long top = twin.learned(kind, row, column, 0);
                        long bottom = twin.learned(kind, row, column, 1);
                        long nearest = (18 * top + bottom) / (2 * bottom);
                        due("weight(" + kind + ", " + row + ", " + column + ")",
                                x.weight(kind, row, column), nearest);
                        sum += nearest;
                    }
                }
            }
            due("learn()", answer, sum);
            due("seen() after learn()", x.seen(), n);
        }
    }

    /** A row of begins that learn() takes as they are, as nothing is seen. */
    private static void dueLearnedBegins(int[] begins, int... want) {
        WeightedTrellis x = plain(begins.length, 1);
        for (int s = 0; s < begins.length; s++) {
            due("weigh begin", x.weigh(BEGIN, 0, s, begins[s]), true);
        }
        x.learn();
        for (int s = 0; s < want.length; s++) {
            due("begin of " + s, x.weight(BEGIN, 0, s), want[s]);
        }
    }

    private static void learnTheNearest() {
        dueLearnedBegins(new int[] {4}, 9);
        dueLearnedBegins(new int[] {0, 7}, 0, 9);
        dueLearnedBegins(new int[] {1, 1, 1}, 3, 3, 3);
        // 2 1/4 and 6 3/4.
        dueLearnedBegins(new int[] {1, 3}, 2, 7);
        // 9/19 is below a half, 9/17 above it.
        dueLearnedBegins(new int[] {1, 9, 9}, 0, 4, 4);
        dueLearnedBegins(new int[] {1, 8, 8}, 1, 4, 4);
    }

    private static void learnOfTwoTheGreater() {
        // 4 1/2; 1 1/2 and 7 1/2; 1/2, 4 and 4 1/2.
        dueLearnedBegins(new int[] {1, 1}, 5, 5);
        dueLearnedBegins(new int[] {9, 9}, 5, 5);
        dueLearnedBegins(new int[] {1, 5}, 2, 8);
        dueLearnedBegins(new int[] {1, 8, 9}, 1, 4, 5);
    }

    private static void learnAnswersTheSumThen() {
        due("a new object", new WeightedTrellis().learn(), 27);
        due("all weights 0", made(1, new int[][] {{0}, {0}, {0}}).learn(), 0);
        due("two states and two symbols", plain(2, 2).learn(), 50);
        due("three states and four symbols", plain(3, 4).learn(), 9 + 27 + 24);
        // 3/8 and 5/8; 2/3 and 1/3; 0 and 1; 3/5 and 2/5; 5/11 and 6/11.
        WeightedTrellis x = small();
        due("learn()", x.learn(), 3 + 6 + 6 + 3 + 0 + 9 + 5 + 4 + 4 + 5);
        due("the total by the weights then", x.total(), 15 * 6 * 4 + 15 * 3 * 5 + 24 * 9 * 5);
        due("the greatest", heaviest().learn(), 9 + 27 + 27);
    }

    private static void learnWithoutTotal() {
        WeightedTrellis x = weightless();
        // 2/7 and 5/7; 1/3 and 2/3; 0 and 1; 0 and 1; 0 and 1.
        due("learn()", x.learn(), 3 + 6 + 3 + 6 + 9 + 9 + 9);
        due("total()", x.total(), 0);
        due("a show stays 0", x.weight(SHOW, 0, 0), 0);
        due("a row of 0 stays 0", made(2, new int[][] {{0}, {3}, {0, 0}}, 1).learn(), 9);
    }

    private static void drawTheFirstAndTheLastUnitOfEachWay() {
        WeightedTrellis x = small();
        long[] units = {0, 23, 24, 35, 36, 95};
        int[][] ways = {{0, 0}, {0, 0}, {0, 1}, {0, 1}, {1, 1}, {1, 1}};
        for (int i = 0; i < units.length; i++) {
            due("draw(" + units[i] + ")", x.draw(units[i]), true);
            dueDrawn(x, ways[i]);
        }
        WeightedTrellis great = heaviest();
        int[][] greatWays = {{0, 0, 0, 0, 0, 0}, {1, 1, 1, 1, 1, 1}, {2, 2, 2, 2, 2, 2}};
        for (int s = 0; s < 3; s++) {
            due("draw the first unit", great.draw(364 * s * NINES), true);
            dueDrawn(great, greatWays[s]);
            due("draw the last unit", great.draw((364 * s + 1) * NINES - 1), true);
            dueDrawn(great, greatWays[s]);
        }
    }

    private static void drawGivesNoUnitToAWayThatWeighsNothing() {
        // The ways 0?, 10 and 12 weigh nothing, nor does 20.
        WeightedTrellis x = made(1, new int[][] {{0, 1, 1}, {1, 1, 1}, {0, 2, 0}, {0, 1, 1}, {1}, {1}, {1}}, 0, 0);
        int[][] ways = {{1, 1}, {1, 1}, {2, 1}, {2, 2}};
        for (int u = 0; u < ways.length; u++) {
            due("draw(" + u + ")", x.draw(u), true);
            dueDrawn(x, ways[u]);
        }
        due("draw(4)", x.draw(4), false);
    }

    private static void drawInPlaceOfTheOneThatWas() {
        WeightedTrellis x = plain(3, 1, 0, 0, 0, 0, 0, 0);
        due("draw the last", x.draw(728), true);
        dueDrawn(x, 2, 2, 2, 2, 2, 2);
        x.forget(2);
        due("draw of two places", x.draw(3), true);
        dueDrawn(x, 1, 0);
        seeAll(x, 0, 0);
        due("draw of four places", x.draw(80), true);
        dueDrawn(x, 2, 2, 2, 2);
        x.forget(0);
        due("draw of no places", x.draw(0), true);
        dueDrawn(x);
    }

    private static void drawRefusesUnits() {
        WeightedTrellis[] some = {small(), heaviest(), plain(1, 1, 0), plain(3, 4), weightless()};
        for (WeightedTrellis x : some) {
            long total = x.total();
            long[] refused = {-1, -2, total, total + 1, Long.MIN_VALUE, Long.MAX_VALUE, (1L << 62) + total,
                (1L << 48) + 1, -(1L << 32)};
            for (long u : refused) {
                due("draw(" + u + ") of " + total, x.draw(u), false);
                dueDrawn(x);
            }
            due("draw(total - 1)", x.draw(total - 1), total > 0);
        }
    }

    private static void drawOfNothingSeen() {
        WeightedTrellis x = new WeightedTrellis();
        due("draw(1)", x.draw(1), false);
        due("draw(-1)", x.draw(-1), false);
        due("draw(0)", x.draw(0), true);
        dueDrawn(x);
        x.see(0);
        dueDrawn(x);
    }

    private static void drawnWhenNoneIs() {
        WeightedTrellis x = small();
        dueDrawn(x);
        due("draw refused", x.draw(96), false);
        dueDrawn(x);
        dueDrawn(new WeightedTrellis());
    }

    private static void drawnOfNoPlace() {
        for (int n = 0; n <= 6; n++) {
            WeightedTrellis x = plain(3, 1, new int[n]);
            due("draw the last", x.draw(x.total() - 1), true);
            for (int bad : outside(0, n - 1)) {
                due("drawn(" + bad + ") of " + n, x.drawn(bad), NONE);
            }
            for (int p = 0; p < n; p++) {
                due("drawn(" + p + ") of " + n, x.drawn(p), 2);
            }
        }
    }

    private static void drawnStaysWhateverBecomes() {
        WeightedTrellis x = small();
        due("draw(30)", x.draw(30), true);
        due("see", x.see(1), 3);
        dueDrawn(x, 0, 1);
        due("weigh, so that the way weighs nothing", x.weigh(STEP, 0, 1, 0), true);
        dueDrawn(x, 0, 1);
        x.learn();
        dueDrawn(x, 0, 1);
        due("forget(1)", x.forget(1), 2);
        dueDrawn(x, 0, 1);
        due("forget(0)", x.forget(0), 1);
        dueDrawn(x, 0, 1);
        due("see", x.see(0), 1);
        dueDrawn(x, 0, 1);
        due("a refused size", x.size(4, 2), false);
        due("a refused draw", x.draw(x.total()), false);
        dueDrawn(x, 0, 1);
    }

    private static void drawnUntilSizeOrAnotherDraw() {
        WeightedTrellis x = small();
        due("draw(30)", x.draw(30), true);
        due("draw(40)", x.draw(40), true);
        dueDrawn(x, 1, 1);
        due("size of the same", x.size(2, 2), true);
        dueDrawn(x);
        WeightedTrellis y = wide(6);
        due("size of less", y.size(1, 1), true);
        dueDrawn(y);
    }

    private static void promises9To12() {
        sentence("Promise 9: The total", BoundariesOfAnswersTest::totalOfNothingOneAndAll);
        sentence("Promise 10: The sum for the places 0 .. p",
                BoundariesOfAnswersTest::beforeAtTheFirstAndTheLastPlace);
        sentence("Promise 10: 0 when there is no such place", BoundariesOfAnswersTest::beforeOfNoPlace);
        sentence("Promise 10: 0 when there is no such state", BoundariesOfAnswersTest::beforeOfNoState);
        sentence("Promise 11: The sum for the places p + 1 .. n - 1", BoundariesOfAnswersTest::behindOnTheWay);
        sentence("Promise 11: (1 when p is n - 1)", BoundariesOfAnswersTest::behindTheLastPlaceIsOne);
        sentence("Promise 11: 0 when there is no such place", BoundariesOfAnswersTest::behindOfNoPlace);
        sentence("Promise 11: 0 when there is no such state", BoundariesOfAnswersTest::behindOfNoState);
        sentence("Promise 12: How many ways have a weight that is not 0",
                BoundariesOfAnswersTest::waysFromNoughtToAll);
    }

    private static void promises13And14() {
        sentence("Promise 13: The weight of the way of rank i", BoundariesOfAnswersTest::rankedUpToTheLastWay);
        sentence("Promise 13: 0 when there is none", BoundariesOfAnswersTest::rankedOfNoWay);
        sentence("Promise 13: or i is not 0 .. 11", BoundariesOfAnswersTest::rankedBeyondTwelve);
        sentence("Promise 13: the last way the heaviest",
                BoundariesOfAnswersTest::rankedWhereTheLastAreTheHeaviest);
        sentence("Promise 14: NONE when there is no such way", BoundariesOfAnswersTest::stateOfNoWay);
        sentence("Promise 14: or place", BoundariesOfAnswersTest::stateOfNoPlace);
        sentence("Promise 14: or i is not 0 .. 11", BoundariesOfAnswersTest::stateOfBeyondTwelve);
    }

    private static void promises15And16() {
        sentence("Promise 15: 0 when there is no such kind", BoundariesOfAnswersTest::shareOfNoKind);
        sentence("Promise 15: no such place", BoundariesOfAnswersTest::shareOfNoPlace);
        sentence("Promise 15: no such state", BoundariesOfAnswersTest::shareOfNoState);
        sentence("Promise 15: or symbol", BoundariesOfAnswersTest::shareOfNoSymbol);
        sentence("Promise 15: or part is not 0 or 1", BoundariesOfAnswersTest::shareOfNoPart);
        sentence("Promise 15: nothing seen", BoundariesOfAnswersTest::sharesOfNothingSeen);
        sentence("Promise 16: 0 when there is no such kind", BoundariesOfAnswersTest::learnedOfNoKind);
        sentence("Promise 16: no such row", BoundariesOfAnswersTest::learnedOfNoRow);
        sentence("Promise 16: or column", BoundariesOfAnswersTest::learnedOfNoColumn);
        sentence("Promise 16: or part is not 0 or 1", BoundariesOfAnswersTest::learnedOfNoPart);
    }

    private static void promise17() {
        sentence("Promise 17: nine times what is learned, all by the weights as they were",
                BoundariesOfAnswersTest::learnIsNineTimesWhatIsLearned);
        sentence("Promise 17: the nearest one", BoundariesOfAnswersTest::learnTheNearest);
        sentence("Promise 17: of two the greater", BoundariesOfAnswersTest::learnOfTwoTheGreater);
        sentence("Promise 17: Answers the sum of all weights then",
                BoundariesOfAnswersTest::learnAnswersTheSumThen);
        sentence("Promise 17: what is learned when the total is 0", BoundariesOfAnswersTest::learnWithoutTotal);
    }

    private static void promises18And19() {
        sentence("Promise 18: the way that is given unit u (from 0) is drawn",
                BoundariesOfAnswersTest::drawTheFirstAndTheLastUnitOfEachWay);
        sentence("Promise 18: each is given as many units as it weighs",
                BoundariesOfAnswersTest::drawGivesNoUnitToAWayThatWeighsNothing);
        sentence("Promise 18: in place of the one that was", BoundariesOfAnswersTest::drawInPlaceOfTheOneThatWas);
        sentence("Promise 18: Refused when u is not 0 .. total - 1", BoundariesOfAnswersTest::drawRefusesUnits);
        sentence("Promise 18: unit 0 of nothing seen", BoundariesOfAnswersTest::drawOfNothingSeen);
        sentence("Promise 19: NONE when none is drawn", BoundariesOfAnswersTest::drawnWhenNoneIs);
        sentence("Promise 19: or it has no such place", BoundariesOfAnswersTest::drawnOfNoPlace);
        sentence("Promise 19: It stays as it was drawn, whatever becomes of weights and symbols",
                BoundariesOfAnswersTest::drawnStaysWhateverBecomes);
        sentence("Promise 19: until size() or another draw", BoundariesOfAnswersTest::drawnUntilSizeOrAnotherDraw);
    }

    public static void main(String[] args) {
        promises9To12();
        promises13And14();
        promises15And16();
        promise17();
        promises18And19();
        close();
    }
}
