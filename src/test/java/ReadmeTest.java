/** The example of README.md, so that the answers told there stay true. */
public final class ReadmeTest extends Trial {
    public static void main(String[] args) {
        WeightedTrellis x = new WeightedTrellis();
        due("size(2, 2)", x.size(2, 2), true);
        due("weigh begin", x.weigh(BEGIN, 0, 0, 3), true);
        due("weigh step", x.weigh(STEP, 0, 1, 2), true);
        due("weigh show", x.weigh(SHOW, 1, 0, 5), true);
        due("see(0)", x.see(0), 1);
        due("see(1)", x.see(1), 2);
        due("total()", x.total(), 19);
        due("ways()", x.ways(), 4);
        due("ranked(0)", x.ranked(0), 6);
        due("stateOf(0, 0)", x.stateOf(0, 0), 0);
        dueShare(x, BEGIN, 1, 0, 8, 19);
        due("draw(9)", x.draw(9), true);
        due("drawn(0)", x.drawn(0), 1);
        due("learn()", x.learn(), 46);
        close();
    }
}
