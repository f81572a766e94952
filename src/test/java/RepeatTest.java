/** Promises 5 and 6: sum, repeat. */
public final class RepeatTest {
    private static final Check CHECK = new Check();

    public static void main(String[] args) {
        sums();
        repeats();
        wrongSums();
        wrongRepeats();
        CHECK.end();
    }

    private static void sums() {
        RubbingMirrors x = Rows.of(129, 131, 118, 128, 0);
        // The heights above 128 are 1, 3, -10, 0, -128.
        CHECK.due("sum 1", 3 - 30, x.sum(1));
        CHECK.due("sum 2", -10 + 1280, x.sum(2));
        CHECK.due("sum 3", -384, x.sum(3));
        CHECK.due("sum 4", -128, x.sum(4));
        x.depth(2, RubbingMirrors.NONE);
        CHECK.due("sum 1 without place 2", 3, x.sum(1));
        CHECK.due("sum 2 without place 2", 0, x.sum(2));
        x.fill(1, -1);
        CHECK.due("sum 1 with a guess", 3, x.sum(1));
        CHECK.due("nothing known", 0, new RubbingMirrors(4).sum(1));
        CHECK.due("the greatest", 63L * 128 * 128, evenRow(0).sum(1));
        CHECK.due("the greatest of the last step", 127 * 127, evenRow(255).sum(63));
    }

    private static RubbingMirrors evenRow(int depth) {
        RubbingMirrors x = new RubbingMirrors(64);
        for (int k = 0; k < 64; k++) {
            x.depth(k, depth);
        }
        return x;
    }

    private static void repeats() {
        RubbingMirrors x = Rows.of(228, 28, 128, 228, 28, 128, 228, 28, 128);
        CHECK.due("all steps", 3, x.repeat(1, 8));
        CHECK.due("behind it", 6, x.repeat(4, 8));
        CHECK.due("both in", 3, x.repeat(2, 3));
        CHECK.due("from in", 3, x.repeat(3, 5));
        CHECK.due("one step", 4, x.repeat(4, 4));
        CHECK.due("the last step", 8, x.repeat(8, 8));
        CHECK.due("all sums 0: the least step", 2, new RubbingMirrors(9).repeat(2, 8));
        CHECK.due("all sums below 0", 3, Rows.of(0, 255, -1, 129).repeat(3, 3));
        // Sums -128 * 10, then 0: the greatest, not the one of the greatest size.
        CHECK.due("0 is above what is below it", 2, Rows.of(0, 138, -1, -1).repeat(1, 3));
        // Steps 1 and 3 have both the sum 1.
        CHECK.due("two alike", 1, Rows.of(129, 129, -1, 129).repeat(1, 3));
    }

    private static void wrongSums() {
        for (int step : new int[] {Integer.MIN_VALUE, -1, 0, 12, Integer.MAX_VALUE}) {
            CHECK.refused("sum " + step, Check.ARGUMENT, Rows::full, x -> x.sum(step));
        }
    }

    private static void wrongRepeats() {
        int[][] wrong = {{0, 5}, {-1, 5}, {12, 12}, {6, 5}, {5, 12}, {1, 0}, {Integer.MIN_VALUE, 3},
            {3, Integer.MAX_VALUE}, {3, Integer.MIN_VALUE}, {Integer.MAX_VALUE, Integer.MAX_VALUE}};
        for (int[] steps : wrong) {
            CHECK.refused("repeat " + steps[0] + " " + steps[1], Check.ARGUMENT, Rows::full,
                x -> x.repeat(steps[0], steps[1]));
        }
    }
}
