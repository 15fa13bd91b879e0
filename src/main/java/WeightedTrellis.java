import java.util.Arrays;

/**
 * Hidden states behind seen symbols, weighed in exact whole numbers and fractions.
 *
 * Every call that changes weights or symbols reckons the sums and ranks anew, so that all other
 * calls only read these and nothing can be out of date. All rows are made once, in the constructor.
 * No sum leaves a long: a way weighs at most 9^12 and there are at most 3^6 ways.
 */
public final class WeightedTrellis {
    public static final int NONE = -1;
    public static final int BEGIN = 0;
    public static final int STEP = 1;
    public static final int SHOW = 2;

    private static final int KINDS = 3;
    private static final int MOST_STATES = 3;
    private static final int MOST_SYMBOLS = 4;
    private static final int MOST_SEEN = 6;
    private static final int MOST_WEIGHT = 9;
    private static final int MOST_RANKS = 12;

    // Euclid's rule ends after at most 92 rounds for any two longs.
    private static final int MOST_ROUNDS = 1000;

    // A way is kept as one number, so that a rank needs no row of its own.
    private static final int STATE_BITS = 2;
    private static final int STATE_MASK = 3;

    private int stateCount;
    private int symbolCount;
    private final int[] weights;
    private final int[] learnedWeights;

    private int seenCount;
    private final int[] seenSymbols;

    private final long[] sumsBefore;
    private final long[] sumsBehind;

    private int wayCount;
    private final long[] rankedWeights;
    private final int[] rankedWays;

    private int drawnCount;
    private final int[] drawnStates;

    public WeightedTrellis() {
        weights = new int[KINDS * MOST_STATES * MOST_SYMBOLS];
        learnedWeights = new int[KINDS * MOST_STATES * MOST_SYMBOLS];
        seenSymbols = new int[MOST_SEEN];
        sumsBefore = new long[MOST_SEEN * MOST_STATES];
        sumsBehind = new long[MOST_SEEN * MOST_STATES];
        rankedWeights = new long[MOST_RANKS];
        rankedWays = new int[MOST_RANKS];
        drawnStates = new int[MOST_SEEN];
        startAnew(1, 1);
    }

    /** So many states and symbols, all weights 1, nothing seen or drawn; false when refused. */
    public boolean size(int states, int symbols) {
        if (states < 1 || states > MOST_STATES || symbols < 1 || symbols > MOST_SYMBOLS) {
            return false;
        }
        startAnew(states, symbols);
        return true;
    }

    /** A weight becomes w; false when refused. */
    public boolean weigh(int kind, int row, int column, int w) {
        if (!hasWeight(kind, row, column) || w < 0 || w > MOST_WEIGHT) {
            return false;
        }
        weights[slot(kind, row, column)] = w;
        reckon();
        return true;
    }

    /** A weight, or NONE. */
    public int weight(int kind, int row, int column) {
        return hasWeight(kind, row, column) ? weights[slot(kind, row, column)] : NONE;
    }

    /** Symbol k is seen; answers how many are, or NONE when refused. */
    public int see(int k) {
        if (k < 0 || k >= symbolCount || seenCount >= MOST_SEEN) {
            return NONE;
        }
        seenSymbols[seenCount] = k;
        seenCount++;
        reckon();
        return seenCount;
    }

    /** What was seen from place p on is forgotten; answers how many, or NONE when refused. */
    public int forget(int p) {
        if (p < 0 || p > seenCount) {
            return NONE;
        }
        int forgotten = seenCount - p;
        seenCount = p;
        reckon();
        return forgotten;
    }

    /** How many symbols are seen. */
    public int seen() {
        return seenCount;
    }

    /** The symbol seen at place p, or NONE. */
    public int symbol(int p) {
        return hasPlace(p) ? seenSymbols[p] : NONE;
    }

    /** The sum of the weights of all ways. */
    public long total() {
        // Without places there is one way, the one without states.
        if (seenCount == 0) {
            return 1;
        }
        long sum = 0;
        for (int s = 0; s < stateCount; s++) {
            sum += sumsBefore[cell(seenCount - 1, s)];
        }
        return sum;
    }

    /** The sum over all beginnings of ways that have s at place p. */
    public long before(int p, int s) {
        return hasPlace(p) && hasState(s) ? sumsBefore[cell(p, s)] : 0;
    }

    /** The sum over all ends of ways that go on from s at place p. */
    public long behind(int p, int s) {
        return hasPlace(p) && hasState(s) ? sumsBehind[cell(p, s)] : 0;
    }

    /** How many ways have a weight that is not 0. */
    public int ways() {
        return wayCount;
    }

    /** The weight of the way of rank i, or 0. */
    public long ranked(int i) {
        return hasRank(i) ? rankedWeights[i] : 0;
    }

    /** The state at place p in the way of rank i, or NONE. */
    public int stateOf(int i, int p) {
        if (!hasRank(i) || !hasPlace(p)) {
            return NONE;
        }
        return (rankedWays[i] >> (STATE_BITS * (seenCount - 1 - p))) & STATE_MASK;
    }

    /** A part of the share of a state at a place, of a step, or of a symbol in a state. */
    public long share(int kind, int row, int column, int part) {
        boolean there = kind == BEGIN ? hasPlace(row) && hasState(column) : hasWeight(kind, row, column);
        return there ? partOf(unitsOf(kind, row, column), total(), part) : 0;
    }

    /** A part of what is learned for a weight. */
    public long learned(int kind, int row, int column, int part) {
        if (!hasWeight(kind, row, column)) {
            return 0;
        }
        long rowUnits = unitsOfRow(kind, row);
        return partOf(learnedPortion(kind, row, column, rowUnits), learnedWhole(kind, row, rowUnits), part);
    }

    /** All weights become the nearest to nine times what is learned; answers their sum. */
    public int learn() {
        int sum = 0;
        for (int kind = 0; kind < KINDS; kind++) {
            for (int row = 0; row < rowsOf(kind); row++) {
                sum += learnRow(kind, row);
            }
        }
        System.arraycopy(learnedWeights, 0, weights, 0, weights.length);
        reckon();
        return sum;
    }

    /** The way that is given unit u is drawn; false when refused. */
    public boolean draw(long u) {
        if (u < 0 || u >= total()) {
            return false;
        }
        long rest = u;
        long weight = 1;
        int from = 0;
        for (int p = 0; p < seenCount; p++) {
            int to = 0;
            long units = weight * entry(p, from, to) * sumsBehind[cell(p, to)];
            // What is left when only the last state remains falls to it, as u is below the total.
            while (to < stateCount - 1 && rest >= units) {
                rest -= units;
                to++;
                units = weight * entry(p, from, to) * sumsBehind[cell(p, to)];
            }
            weight *= entry(p, from, to);
            drawnStates[p] = to;
            from = to;
        }
        drawnCount = seenCount;
        return true;
    }

    /** The state at place p of the way that was drawn, or NONE. */
    public int drawn(int p) {
        return p >= 0 && p < drawnCount ? drawnStates[p] : NONE;
    }

    private void startAnew(int states, int symbols) {
        stateCount = states;
        symbolCount = symbols;
        seenCount = 0;
        drawnCount = 0;
        Arrays.fill(weights, 1);
        reckon();
    }

    private int rowsOf(int kind) {
        switch (kind) {
            case BEGIN:
                return 1;
            case STEP:
            case SHOW:
                return stateCount;
            default:
                return 0;
        }
    }

    private int columnsOf(int kind) {
        return kind == SHOW ? symbolCount : stateCount;
    }

    private boolean hasWeight(int kind, int row, int column) {
        return row >= 0 && row < rowsOf(kind) && column >= 0 && column < columnsOf(kind);
    }

    private boolean hasPlace(int p) {
        return p >= 0 && p < seenCount;
    }

    private boolean hasState(int s) {
        return s >= 0 && s < stateCount;
    }

    private boolean hasRank(int i) {
        return i >= 0 && i < MOST_RANKS && i < wayCount;
    }

    private static int slot(int kind, int row, int column) {
        return (kind * MOST_STATES + row) * MOST_SYMBOLS + column;
    }

    private static int cell(int place, int state) {
        return place * MOST_STATES + state;
    }

    /** What a way is multiplied by when it comes from a state (none at place 0) to another at a place. */
    private long entry(int place, int from, int to) {
        int come = place == 0 ? weights[slot(BEGIN, 0, to)] : weights[slot(STEP, from, to)];
        return (long) come * weights[slot(SHOW, to, seenSymbols[place])];
    }

    private void reckon() {
        sumBefore();
        sumBehind();
        wayCount = 0;
        rankFrom(0, 0, 1);
    }

    private void sumBefore() {
        for (int p = 0; p < seenCount; p++) {
            for (int s = 0; s < stateCount; s++) {
                sumsBefore[cell(p, s)] = p == 0 ? entry(0, 0, s) : sumInto(p, s);
            }
        }
    }

    private long sumInto(int place, int to) {
        long sum = 0;
        for (int s = 0; s < stateCount; s++) {
            sum += sumsBefore[cell(place - 1, s)] * entry(place, s, to);
        }
        return sum;
    }

    private void sumBehind() {
        for (int p = seenCount - 1; p >= 0; p--) {
            for (int s = 0; s < stateCount; s++) {
                sumsBehind[cell(p, s)] = p == seenCount - 1 ? 1 : sumOutOf(p, s);
            }
        }
    }

    private long sumOutOf(int place, int from) {
        long sum = 0;
        for (int t = 0; t < stateCount; t++) {
            sum += entry(place + 1, from, t) * sumsBehind[cell(place + 1, t)];
        }
        return sum;
    }

    /** Goes through the ways as they come before one another; at most MOST_SEEN + 1 levels deep. */
    private void rankFrom(int place, int way, long weight) {
        if (place >= seenCount) {
            rankWay(way, weight);
            return;
        }
        for (int s = 0; s < stateCount; s++) {
            long next = weight * entry(place, way & STATE_MASK, s);
            if (next != 0) {
                rankFrom(place + 1, (way << STATE_BITS) | s, next);
            }
        }
    }

    /** Ways of the same weight that were met earlier come before this one, so it stays behind them. */
    private void rankWay(int way, long weight) {
        int i = Math.min(wayCount, MOST_RANKS);
        while (i > 0 && rankedWeights[i - 1] < weight) {
            i--;
            if (i + 1 < MOST_RANKS) {
                rankedWeights[i + 1] = rankedWeights[i];
                rankedWays[i + 1] = rankedWays[i];
            }
        }
        if (i < MOST_RANKS) {
            rankedWeights[i] = weight;
            rankedWays[i] = way;
        }
        wayCount++;
    }

    /** A share times the total: of a state at a place, of a step, or of a symbol in a state. */
    private long unitsOf(int kind, int row, int column) {
        switch (kind) {
            case BEGIN:
                return unitsThrough(row, column);
            case STEP:
                return unitsOfStep(row, column);
            default:
                return unitsOfSymbol(row, column);
        }
    }

    private long unitsThrough(int place, int state) {
        // Learning asks for place 0 even when nothing is seen.
        return hasPlace(place) ? sumsBefore[cell(place, state)] * sumsBehind[cell(place, state)] : 0;
    }

    private long unitsOfStep(int from, int to) {
        long sum = 0;
        for (int p = 0; p < seenCount - 1; p++) {
            sum += sumsBefore[cell(p, from)] * entry(p + 1, from, to) * sumsBehind[cell(p + 1, to)];
        }
        return sum;
    }

    private long unitsOfSymbol(int state, int symbol) {
        long sum = 0;
        for (int p = 0; p < seenCount; p++) {
            if (seenSymbols[p] == symbol) {
                sum += unitsThrough(p, state);
            }
        }
        return sum;
    }

    private long unitsOfRow(int kind, int row) {
        long sum = 0;
        for (int c = 0; c < columnsOf(kind); c++) {
            sum += unitsOf(kind, row, c);
        }
        return sum;
    }

    private long weightOfRow(int kind, int row) {
        long sum = 0;
        for (int c = 0; c < columnsOf(kind); c++) {
            sum += weights[slot(kind, row, c)];
        }
        return sum;
    }

    // The total cancels out where a share is divided by the sum of the shares of its row, and the
    // shares of all states at place 0 sum up to 1: so all three kinds are learned by one rule.
    private long learnedPortion(int kind, int row, int column, long rowUnits) {
        return rowUnits != 0 ? unitsOf(kind, row, column) : weights[slot(kind, row, column)];
    }

    private long learnedWhole(int kind, int row, long rowUnits) {
        return rowUnits != 0 ? rowUnits : weightOfRow(kind, row);
    }

    /** The new weights are kept apart, as all of them are learned by the weights as they were. */
    private int learnRow(int kind, int row) {
        int sum = 0;
        long rowUnits = unitsOfRow(kind, row);
        long whole = learnedWhole(kind, row, rowUnits);
        for (int c = 0; c < columnsOf(kind); c++) {
            int w = nearest(MOST_WEIGHT * learnedPortion(kind, row, c, rowUnits), whole);
            learnedWeights[slot(kind, row, c)] = w;
            sum += w;
        }
        return sum;
    }

    /** The nearest whole number to a fraction, of two the greater; 0 when the fraction has no divisor. */
    private static int nearest(long numerator, long denominator) {
        return denominator > 0 ? (int) ((2 * numerator + denominator) / (2 * denominator)) : 0;
    }

    private static long partOf(long numerator, long denominator, int part) {
        if (part != 0 && part != 1) {
            return 0;
        }
        long divisor = commonDivisor(numerator, denominator);
        // The fraction of 0 is 0 by 1, also where there is nothing to divide by.
        if (numerator == 0 || divisor == 0) {
            return part;
        }
        return (part == 0 ? numerator : denominator) / divisor;
    }

    private static long commonDivisor(long a, long b) {
        long divisor = a;
        long rest = b;
        for (int i = 0; i < MOST_ROUNDS && rest != 0; i++) {
            long next = divisor % rest;
            divisor = rest;
            rest = next;
        }
        return divisor;
    }
}
