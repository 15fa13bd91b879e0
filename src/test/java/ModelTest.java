import java.math.BigInteger;
import java.util.ArrayList;
import java.util.Arrays;
import java.util.List;
import java.util.Random;

/**
 * Long runs of calls against a plain model that lists every way, as the document's terms say it, in
 * numbers without a limit. The runs are the same each time.
 */
public final class ModelTest {
    private static final int RUNS = 600;
    private static final int CHANGES = 40;

    private static int wrong = 0;

    private record Way(int[] states, BigInteger weight) { }

    private record Fraction(BigInteger top, BigInteger bottom) {
        static final Fraction ZERO = new Fraction(BigInteger.ZERO, BigInteger.ONE);

        static Fraction of(BigInteger top, BigInteger bottom) {
            BigInteger divisor = top.gcd(bottom);
            return top.signum() == 0 ? ZERO : new Fraction(top.divide(divisor), bottom.divide(divisor));
        }

        Fraction plus(Fraction other) {
            return of(top.multiply(other.bottom).add(other.top.multiply(bottom)), bottom.multiply(other.bottom));
        }

        Fraction by(Fraction other) {
            return of(top.multiply(other.bottom), bottom.multiply(other.top));
        }

        boolean isZero() {
            return top.signum() == 0;
        }

        long part(int part) {
            return (part == 0 ? top : bottom).longValueExact();
        }
    }

    /** What the document says, without any regard for speed. */
    private static final class Model {
        int states;
        int symbols;
        int[][][] weights;
        List<Integer> seen;
        int[] drawn;
        List<Way> ways;
        List<Way> ranks;

        Model() {
            size(1, 1);
        }

        boolean size(int newStates, int newSymbols) {
            if (newStates < 1 || newStates > 3 || newSymbols < 1 || newSymbols > 4) {
                return false;
            }
            states = newStates;
            symbols = newSymbols;
            weights = new int[][][] {
                new int[1][states], new int[states][states], new int[states][symbols]};
            for (int[][] kind : weights) {
                for (int[] row : kind) {
                    Arrays.fill(row, 1);
                }
            }
            seen = new ArrayList<>();
            drawn = new int[0];
            list();
            return true;
        }

        boolean has(int kind, int row, int column) {
            return kind >= 0 && kind < 3 && row >= 0 && row < weights[kind].length
                    && column >= 0 && column < weights[kind][row].length;
        }

        boolean weigh(int kind, int row, int column, int w) {
            if (!has(kind, row, column) || w < 0 || w > 9) {
                return false;
            }
            weights[kind][row][column] = w;
            list();
            return true;
        }

        int see(int k) {
            if (k < 0 || k >= symbols || seen.size() == 6) {
                return -1;
            }
            seen.add(k);
            list();
            return seen.size();
        }

        int forget(int p) {
            if (p < 0 || p > seen.size()) {
                return -1;
            }
            int gone = seen.size() - p;
            seen = new ArrayList<>(seen.subList(0, p));
            list();
            return gone;
        }

        /** All ways as they come before one another, and those that are not 0 as they are heavier. */
        void list() {
            ways = new ArrayList<>();
            int count = 1;
            for (int p = 0; p < seen.size(); p++) {
                count *= states;
            }
            for (int number = 0; number < count; number++) {
                int[] way = new int[seen.size()];
                int rest = number;
                for (int p = way.length - 1; p >= 0; p--) {
                    way[p] = rest % states;
                    rest /= states;
                }
                ways.add(new Way(way, product(way, 0, way.length - 1, true)));
            }
            ranks = new ArrayList<>(ways);
            ranks.removeIf(way -> way.weight.signum() == 0);
            ranks.sort((a, b) -> {
                int byWeight = b.weight.compareTo(a.weight);
                return byWeight != 0 ? byWeight : Arrays.compare(a.states, b.states);
            });
        }

        /** With the entry: begin and the show at the first place too. */
        BigInteger product(int[] way, int first, int last, boolean entry) {
            BigInteger product = BigInteger.ONE;
            for (int p = first; p <= last; p++) {
                if (p > first) {
                    product = times(product, weights[1][way[p - 1]][way[p]]);
                } else if (entry) {
                    product = times(product, weights[0][0][way[p]]);
                }
                if (p > first || entry) {
                    product = times(product, weights[2][way[p]][seen.get(p)]);
                }
            }
            return product;
        }

        static BigInteger times(BigInteger number, int weight) {
            return number.multiply(BigInteger.valueOf(weight));
        }

        BigInteger total() {
            BigInteger sum = BigInteger.ZERO;
            for (Way way : ways) {
                sum = sum.add(way.weight);
            }
            return sum;
        }

        boolean spot(int p, int s) {
            return p >= 0 && p < seen.size() && s >= 0 && s < states;
        }

        /** Of all ways with s at place p, those alone that have state 0 in all places behind it. */
        BigInteger before(int p, int s) {
            BigInteger sum = BigInteger.ZERO;
            for (Way way : ways) {
                if (spot(p, s) && way.states[p] == s && restIsZero(way.states, p + 1, seen.size())) {
                    sum = sum.add(product(way.states, 0, p, true));
                }
            }
            return sum;
        }

        BigInteger behind(int p, int s) {
            BigInteger sum = BigInteger.ZERO;
            for (Way way : ways) {
                if (spot(p, s) && way.states[p] == s && restIsZero(way.states, 0, p)) {
                    sum = sum.add(product(way.states, p, seen.size() - 1, false));
                }
            }
            return sum;
        }

        static boolean restIsZero(int[] way, int from, int to) {
            for (int p = from; p < to; p++) {
                if (way[p] != 0) {
                    return false;
                }
            }
            return true;
        }

        long count(Way way, int kind, int row, int column) {
            long count = 0;
            for (int p = 0; p < seen.size(); p++) {
                int state = way.states[p];
                boolean step = p + 1 < seen.size() && state == row && way.states[p + 1] == column;
                boolean show = state == row && seen.get(p) == column;
                boolean there = p == row && state == column;
                count += (kind == 0 ? there : kind == 1 ? step : show) ? 1 : 0;
            }
            return count;
        }

        Fraction share(int kind, int row, int column) {
            BigInteger sum = BigInteger.ZERO;
            for (Way way : ways) {
                sum = sum.add(way.weight.multiply(BigInteger.valueOf(count(way, kind, row, column))));
            }
            return total().signum() == 0 ? Fraction.ZERO : Fraction.of(sum, total());
        }

        boolean hasShare(int kind, int row, int column) {
            return kind == 0 ? spot(row, column) : has(kind, row, column);
        }

        Fraction learned(int kind, int row, int column) {
            if (kind == 0 && total().signum() != 0 && !seen.isEmpty()) {
                return share(0, 0, column);
            }
            Fraction sum = Fraction.ZERO;
            for (int c = 0; kind != 0 && c < weights[kind][row].length; c++) {
                sum = sum.plus(share(kind, row, c));
            }
            if (!sum.isZero()) {
                return share(kind, row, column).by(sum);
            }
            int rowWeight = Arrays.stream(weights[kind][row]).sum();
            return rowWeight == 0 ? Fraction.ZERO : Fraction.of(
                    BigInteger.valueOf(weights[kind][row][column]), BigInteger.valueOf(rowWeight));
        }

        int learn() {
            int[][][] next = new int[3][][];
            int sum = 0;
            for (int kind = 0; kind < 3; kind++) {
                next[kind] = new int[weights[kind].length][];
                for (int row = 0; row < next[kind].length; row++) {
                    next[kind][row] = new int[weights[kind][row].length];
                    for (int c = 0; c < next[kind][row].length; c++) {
                        next[kind][row][c] = nearest(learned(kind, row, c));
                        sum += next[kind][row][c];
                    }
                }
            }
            weights = next;
            list();
            return sum;
        }

        /** The greatest whole number that is not above nine times the fraction and a half. */
        static int nearest(Fraction f) {
            int best = 0;
            for (int w = 0; w <= 10; w++) {
                BigInteger twice = BigInteger.valueOf(2L * w - 1).multiply(f.bottom);
                if (twice.compareTo(f.top.multiply(BigInteger.valueOf(18))) <= 0) {
                    best = w;
                }
            }
            return best;
        }

        boolean draw(long u) {
            BigInteger rest = BigInteger.valueOf(u);
            if (u < 0 || rest.compareTo(total()) >= 0) {
                return false;
            }
            for (Way way : ways) {
                if (rest.compareTo(way.weight) < 0) {
                    drawn = way.states;
                    return true;
                }
                rest = rest.subtract(way.weight);
            }
            throw new IllegalStateException("no way has the unit");
        }
    }

    private static void due(String what, long got, long want) {
        if (got != want) {
            wrong++;
            if (wrong <= 50) {
                System.out.println(what + " answered " + got + ", due is " + want);
            }
        }
    }

    private static int most(Random random, int bound) {
        // Now and then an argument just outside of what there is.
        return random.nextInt(12) == 0 ? (random.nextBoolean() ? -1 : bound) : random.nextInt(bound);
    }

    private static int someWeight(Random random, int zeros) {
        return random.nextInt(10) < zeros ? 0 : most(random, 10);
    }

    private static String change(Random random, WeightedTrellis x, Model m, int zeros) {
        int choice = random.nextInt(100);
        if (choice < 3) {
            int states = random.nextInt(6) - 1;
            int symbols = random.nextInt(7) - 1;
            String call = "size(" + states + ", " + symbols + ")";
            due(call, x.size(states, symbols) ? 1 : 0, m.size(states, symbols) ? 1 : 0);
            return call;
        }
        if (choice < 55) {
            int kind = random.nextInt(20) == 0 ? random.nextInt(6) - 1 : random.nextInt(3);
            int row = kind == 0 ? (random.nextInt(10) == 0 ? 1 : 0) : most(random, m.states);
            int column = most(random, kind == 2 ? m.symbols : m.states);
            int w = someWeight(random, zeros);
            String call = "weigh(" + kind + ", " + row + ", " + column + ", " + w + ")";
            due(call, x.weigh(kind, row, column, w) ? 1 : 0, m.weigh(kind, row, column, w) ? 1 : 0);
            return call;
        }
        if (choice < 80) {
            int k = most(random, m.symbols);
            due("see(" + k + ")", x.see(k), m.see(k));
            return "see(" + k + ")";
        }
        if (choice < 85) {
            int p = most(random, m.seen.size() + 1);
            due("forget(" + p + ")", x.forget(p), m.forget(p));
            return "forget(" + p + ")";
        }
        if (choice < 90) {
            due("learn()", x.learn(), m.learn());
            return "learn()";
        }
        long u = random.nextInt(8) == 0 ? m.total().longValueExact() - random.nextInt(2)
                : Math.floorMod(random.nextLong(), m.total().longValueExact() + 1);
        due("draw(" + u + ")", x.draw(u) ? 1 : 0, m.draw(u) ? 1 : 0);
        return "draw(" + u + ")";
    }

    private static void compareRows(String after, WeightedTrellis x, Model m) {
        due(after + "seen()", x.seen(), m.seen.size());
        due(after + "total()", x.total(), m.total().longValueExact());
        due(after + "ways()", x.ways(), m.ranks.size());
        for (int p = -1; p <= 7; p++) {
            boolean place = p >= 0 && p < m.seen.size();
            due(after + "symbol(" + p + ")", x.symbol(p), place ? m.seen.get(p) : -1);
            due(after + "drawn(" + p + ")", x.drawn(p), p >= 0 && p < m.drawn.length ? m.drawn[p] : -1);
            for (int s = -1; s <= 3; s++) {
                due(after + "before(" + p + ", " + s + ")", x.before(p, s), m.before(p, s).longValueExact());
                due(after + "behind(" + p + ", " + s + ")", x.behind(p, s), m.behind(p, s).longValueExact());
            }
        }
        for (int i = -1; i <= 13; i++) {
            Way way = i >= 0 && i < 12 && i < m.ranks.size() ? m.ranks.get(i) : null;
            due(after + "ranked(" + i + ")", x.ranked(i), way == null ? 0 : way.weight.longValueExact());
            for (int p = -1; p <= 6; p++) {
                boolean there = way != null && p >= 0 && p < way.states.length;
                due(after + "stateOf(" + i + ", " + p + ")", x.stateOf(i, p), there ? way.states[p] : -1);
            }
        }
    }

    private static void compareWeights(String after, WeightedTrellis x, Model m) {
        for (int kind = -1; kind <= 3; kind++) {
            for (int row = -1; row <= 6; row++) {
                for (int column = -1; column <= 4; column++) {
                    boolean there = m.has(kind, row, column);
                    String at = kind + ", " + row + ", " + column;
                    due(after + "weight(" + at + ")", x.weight(kind, row, column),
                            there ? m.weights[kind][row][column] : -1);
                    Fraction share = m.hasShare(kind, row, column) ? m.share(kind, row, column) : null;
                    Fraction learned = there ? m.learned(kind, row, column) : null;
                    for (int part = -1; part <= 2; part++) {
                        boolean known = part == 0 || part == 1;
                        due(after + "share(" + at + ", " + part + ")", x.share(kind, row, column, part),
                                known && share != null ? share.part(part) : 0);
                        due(after + "learned(" + at + ", " + part + ")", x.learned(kind, row, column, part),
                                known && learned != null ? learned.part(part) : 0);
                    }
                }
            }
        }
    }

    /** Grown ones have all six places soon, as most of the rules show only there. */
    private static void run(int number) {
        Random random = new Random(number);
        WeightedTrellis x = new WeightedTrellis();
        Model m = new Model();
        int zeros = number % 5;
        if (number % 3 != 0) {
            int states = 1 + random.nextInt(3);
            int symbols = 1 + random.nextInt(4);
            x.size(states, symbols);
            m.size(states, symbols);
            int places = random.nextInt(7);
            for (int p = 0; p < places; p++) {
                int k = random.nextInt(symbols);
                due("see", x.see(k), m.see(k));
            }
        }
        for (int i = 0; i < CHANGES; i++) {
            String call = change(random, x, m, zeros);
            if (i % 4 == 3) {
                String after = "run " + number + ", change " + i + ", after " + call + ": ";
                compareRows(after, x, m);
                compareWeights(after, x, m);
            }
        }
    }

    public static void main(String[] args) {
        for (int number = 0; number < RUNS; number++) {
            run(number);
        }
        System.out.println(wrong == 0 ? "all answers are as due" : wrong + " answers are not as due");
        if (wrong != 0) {
            System.exit(1);
        }
    }
}
