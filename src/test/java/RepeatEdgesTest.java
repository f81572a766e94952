/** The boundary cases of repeats and of promises 5 and 6, a test for each sentence that names one. */
public final class RepeatEdgesTest {
    private static final Check CHECK = new Check();
    private static final int NONE = RubbingMirrors.NONE;

    public static void main(String[] args) {
        CHECK.sentence("REPEAT with a step s (1 .. n - 1)", RepeatEdgesTest::firstAndLastStep);
        CHECK.sentence("(DEPTH of k - 128) * (DEPTH of k + s - 128)", RepeatEdgesTest::greatestAndLeastSum);
        CHECK.sentence("over all k with both KNOWN", RepeatEdgesTest::onlyKnown);
        CHECK.sentence("sum: IllegalArgumentException: it is not 1 .. n - 1.", RepeatEdgesTest::stepRange);
        CHECK.sentence("the greatest SUM", RepeatEdgesTest::greatest);
        CHECK.sentence("of several the least step", RepeatEdgesTest::leastStep);
        CHECK.sentence("between two steps (both in)", RepeatEdgesTest::bothIn);
        CHECK.sentence("from is not 1 .. n - 1", RepeatEdgesTest::fromRange);
        CHECK.sentence("or to not from .. n - 1", RepeatEdgesTest::toRange);
        CHECK.end();
    }

    private static RubbingMirrors byTurns(int n, int even, int odd) {
        RubbingMirrors x = new RubbingMirrors(n);
        for (int k = 0; k < n; k++) {
            x.depth(k, k % 2 == 0 ? even : odd);
        }
        return x;
    }

    private static void firstAndLastStep() {
        for (int n = 4; n <= 64; n++) {
            RubbingMirrors x = byTurns(n, 129, 129);
            for (int step = 1; step < n; step++) {
                CHECK.due("sum " + step + " of n = " + n, n - step, x.sum(step));
            }
        }
        // Heights 1, 2, 3, 5: the last step has one product, of the first place and the last.
        RubbingMirrors x = Rows.of(129, 130, 131, 133);
        CHECK.due("the first step", 2 + 6 + 15, x.sum(1));
        CHECK.due("the last step", 5, x.sum(3));
    }

    private static void greatestAndLeastSum() {
        CHECK.due("all 0 deep", 63L * 128 * 128, byTurns(64, 0, 0).sum(1));
        CHECK.due("all 255 deep", 63L * 127 * 127, byTurns(64, 255, 255).sum(1));
        CHECK.due("0 and 255 by turns", -63L * 128 * 127, byTurns(64, 0, 255).sum(1));
        CHECK.due("0 and 255 by turns, two on", 31L * 128 * 128 + 31L * 127 * 127, byTurns(64, 0, 255).sum(2));
        CHECK.due("128 deep", 0, byTurns(64, 128, 0).sum(1));
        CHECK.due("127 and 129 deep", -63, byTurns(64, 127, 129).sum(1));
    }

    private static void onlyKnown() {
        for (int n : new int[] {4, 64}) {
            for (int step = 1; step < n; step++) {
                CHECK.due("sum " + step + " of an empty row", 0, new RubbingMirrors(n).sum(step));
            }
        }
        CHECK.due("the first is lost", 0, Rows.of(NONE, 0, NONE, NONE).sum(1));
        CHECK.due("the second is lost", 0, Rows.of(0, NONE, NONE, NONE).sum(1));
        RubbingMirrors x = Rows.of(0, NONE, 0, 0);
        CHECK.due("before", 128 * 128, x.sum(1));
        x.fill(1, NONE);
        CHECK.due("a guess is in no product", 128 * 128, x.sum(1));
        CHECK.due("nor two steps on", 128 * 128, x.sum(2));
        x.depth(1, 0);
        CHECK.due("told", 3 * 128 * 128, x.sum(1));
    }

    private static void stepRange() {
        for (int n : new int[] {4, 5, 63, 64}) {
            CHECK.range("n = " + n + ", sum", 1, n - 1, Check.ARGUMENT, () -> new RubbingMirrors(n),
                (x, step) -> x.sum(step));
        }
        CHECK.range("sum", 1, 11, Check.ARGUMENT, Rows::full, (x, step) -> x.sum(step));
    }

    private static void greatest() {
        RubbingMirrors x = Rows.of(129, 128, 126, 118);
        CHECK.due("sums 20, -2, -10", 1, x.repeat(1, 3));
        CHECK.due("sums -2, -10", 2, x.repeat(2, 3));
        CHECK.due("sums -1280 and 0", 2, Rows.of(0, 138, NONE, NONE).repeat(1, 2));
        CHECK.due("sums 0, 0 and 1", 3, Rows.of(129, NONE, NONE, 129).repeat(1, 3));
        CHECK.due("sums 0, 0 and -1", 1, Rows.of(129, NONE, NONE, 127).repeat(1, 3));
        CHECK.due("0 and 255 by turns", 2, byTurns(64, 0, 255).repeat(1, 63));
        CHECK.due("0 and 255 by turns, from 62 on", 62, byTurns(64, 0, 255).repeat(62, 63));
    }

    private static void leastStep() {
        for (int n : new int[] {4, 64}) {
            for (int from = 1; from < n; from++) {
                CHECK.due("an empty row from " + from, from, new RubbingMirrors(n).repeat(from, n - 1));
                CHECK.due("an even row from " + from, from, byTurns(n, 128, 128).repeat(from, n - 1));
            }
        }
        CHECK.due("sums 1, 1, 1", 1, Rows.of(129, 129, NONE, 129).repeat(1, 3));
        CHECK.due("of them from 2 on", 2, Rows.of(129, 129, NONE, 129).repeat(2, 3));
        CHECK.due("sums 0, 1, 1", 2, Rows.of(129, 128, 129, 129).repeat(2, 3));
    }

    private static void bothIn() {
        // Places 0 and k alone: step k has the only sum above 0.
        for (int k = 1; k < 9; k++) {
            RubbingMirrors x = new RubbingMirrors(9);
            x.depth(0, 255);
            x.depth(k, 255);
            CHECK.due("all steps, " + k, k, x.repeat(1, 8));
            CHECK.due("from " + k, k, x.repeat(k, 8));
            CHECK.due("to " + k, k, x.repeat(1, k));
            CHECK.due(k + " alone", k, x.repeat(k, k));
            if (k < 8) {
                CHECK.due("from behind " + k, k + 1, x.repeat(k + 1, 8));
            }
            if (k > 1) {
                CHECK.due("to before " + k, 1, x.repeat(1, k - 1));
            }
        }
    }

    private static void fromRange() {
        for (int n : new int[] {4, 5, 63, 64}) {
            CHECK.range("n = " + n + ", repeat from", 1, n - 1, Check.ARGUMENT, () -> new RubbingMirrors(n),
                (x, from) -> x.repeat(from, n - 1));
        }
        CHECK.refused("from and to are 0", Check.ARGUMENT, Rows::full, x -> x.repeat(0, 0));
        CHECK.refused("from and to are n", Check.ARGUMENT, Rows::full, x -> x.repeat(12, 12));
    }

    private static void toRange() {
        for (int n : new int[] {4, 64}) {
            for (int from : new int[] {1, 2, n - 2, n - 1}) {
                CHECK.range("n = " + n + ", repeat from " + from + " to", from, n - 1, Check.ARGUMENT,
                    () -> new RubbingMirrors(n), (x, to) -> x.repeat(from, to));
            }
        }
        CHECK.range("repeat from 5 to", 5, 11, Check.ARGUMENT, Rows::full, (x, to) -> x.repeat(5, to));
    }
}
