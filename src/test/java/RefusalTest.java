import java.util.Arrays;
import java.util.function.BiConsumer;
import java.util.function.Predicate;
import java.util.function.Supplier;

/**
 * "of several exceptions the one named first is thrown": every call with every mixture of right and wrong
 * numbers, in rooms that are empty, begun and full. Of what a refused call must leave alone only the counts are
 * looked at here, as there are so many mixtures; the other tests look at all that can be seen.
 */
public final class RefusalTest {
    private static final Check CHECK = new Check();
    private static final int LEAST = Integer.MIN_VALUE;
    private static final int GREATEST = Integer.MAX_VALUE;

    /** An exception of the document, and the numbers for which it is due. */
    private record Refusal(Class<? extends RuntimeException> thrown, Predicate<int[]> when) {
    }

    public static void main(String[] args) {
        CHECK.sentence("depth", RefusalTest::depth);
        CHECK.sentence("place", RefusalTest::place);
        CHECK.sentence("mirror", RefusalTest::mirror);
        CHECK.sentence("sum", RefusalTest::sum);
        CHECK.sentence("repeat", RefusalTest::repeat);
        CHECK.sentence("fill", RefusalTest::fill);
        CHECK.sentence("shape", RefusalTest::shape);
        CHECK.sentence("carve", RefusalTest::carve);
        CHECK.sentence("match", RefusalTest::match);
        CHECK.sentence("kind", RefusalTest::kind);
        CHECK.sentence("question", RefusalTest::question);
        CHECK.sentence("ask", RefusalTest::ask);
        CHECK.sentence("rule", RefusalTest::rule);
        CHECK.sentence("age", RefusalTest::age);
        CHECK.end();
    }

    /** All mixtures of the choices; the refusals stand in the order in which the document names them. */
    private static void mixtures(String what, Supplier<RubbingMirrors> maker, int[][] choices,
            BiConsumer<RubbingMirrors, int[]> call, Refusal... refusals) {
        String untouched = Seen.counts(maker.get());
        int[] turn = new int[choices.length];
        boolean more = true;
        while (more) {
            int[] numbers = new int[choices.length];
            for (int i = 0; i < numbers.length; i++) {
                numbers[i] = choices[i][turn[i]];
            }
            one(what + Arrays.toString(numbers), maker.get(), untouched, numbers, call, refusals);
            more = next(turn, choices);
        }
    }

    private static boolean next(int[] turn, int[][] choices) {
        for (int i = 0; i < turn.length; i++) {
            turn[i]++;
            if (turn[i] < choices[i].length) {
                return true;
            }
            turn[i] = 0;
        }
        return false;
    }

    private static void one(String what, RubbingMirrors x, String untouched, int[] numbers,
            BiConsumer<RubbingMirrors, int[]> call, Refusal[] refusals) {
        String due = "nothing";
        for (int i = refusals.length - 1; i >= 0; i--) {
            if (refusals[i].when().test(numbers)) {
                due = refusals[i].thrown().getName();
            }
        }
        CHECK.due(what + " throws", due, Check.thrownBy(() -> call.accept(x, numbers)));
        if (!due.equals("nothing")) {
            CHECK.due(what + " leaves the counts", untouched, Seen.counts(x));
        }
    }

    private static Refusal index(Predicate<int[]> when) {
        return new Refusal(Check.INDEX, when);
    }

    private static Refusal argument(Predicate<int[]> when) {
        return new Refusal(Check.ARGUMENT, when);
    }

    private static Refusal state(boolean when) {
        return new Refusal(Check.STATE, numbers -> when);
    }

    private static boolean isOff(int number, int least, int greatest) {
        return number < least || number > greatest;
    }

    private static int[] edges(int least, int greatest) {
        return new int[] {LEAST, least - 1, least, greatest, greatest + 1, GREATEST};
    }

    /** A row of four places with a guess, and so many shapes of length 3, kinds and rules. */
    private static RubbingMirrors room(int shapes, int nodes, int rules) {
        RubbingMirrors x = Rows.of(10, 20, -1, 40);
        x.fill(1, -1);
        for (int i = 0; i < shapes; i++) {
            x.shape(3);
        }
        for (int i = 0; i < nodes; i++) {
            x.kind(i);
        }
        for (int i = 0; i < rules; i++) {
            x.rule(0, 0, 0, 255, -i, i);
        }
        return x;
    }

    private static RubbingMirrors begun() {
        return room(1, 1, 1);
    }

    private static void depth() {
        mixtures("", RefusalTest::begun, new int[][] {edges(0, 3), edges(-1, 255)}, (x, a) -> x.depth(a[0], a[1]),
            index(a -> isOff(a[0], 0, 3)), argument(a -> isOff(a[1], -1, 255)));
    }

    private static void place() {
        mixtures("", RefusalTest::begun, new int[][] {edges(0, 3), edges(0, 1)}, (x, a) -> x.place(a[0], a[1]),
            index(a -> isOff(a[0], 0, 3) || isOff(a[1], 0, 1)));
    }

    private static void mirror() {
        mixtures("some count", RefusalTest::begun, new int[][] {edges(0, 2)}, (x, a) -> x.mirror(a[0]),
            index(a -> isOff(a[0], 0, 2)));
        mixtures("none counts", () -> new RubbingMirrors(4), new int[][] {edges(0, 2)}, (x, a) -> x.mirror(a[0]),
            state(true), index(a -> isOff(a[0], 0, 2)));
    }

    private static void sum() {
        mixtures("", RefusalTest::begun, new int[][] {edges(1, 3)}, (x, a) -> x.sum(a[0]),
            argument(a -> isOff(a[0], 1, 3)));
    }

    private static void repeat() {
        int[] steps = {LEAST, -1, 0, 1, 2, 3, 4, GREATEST};
        mixtures("", RefusalTest::begun, new int[][] {steps, steps}, (x, a) -> x.repeat(a[0], a[1]),
            argument(a -> isOff(a[0], 1, 3) || isOff(a[1], a[0], 3)));
    }

    private static void fill() {
        mixtures("", RefusalTest::begun, new int[][] {edges(0, 3), edges(-1, 6)}, (x, a) -> x.fill(a[0], a[1]),
            argument(a -> isOff(a[0], 0, 3) || isOff(a[1], -1, 6)));
    }

    private static void shape() {
        for (int count = 0; count <= 8; count++) {
            int shapes = count;
            mixtures("behind " + count, () -> room(shapes, 0, 0), new int[][] {edges(2, 16)},
                (x, a) -> x.shape(a[0]), argument(a -> isOff(a[0], 2, 16)), state(shapes == 8));
        }
    }

    private static void carve() {
        for (int count : new int[] {0, 1, 2, 8}) {
            mixtures("of " + count, () -> room(count, 0, 0), new int[][] {
                {LEAST, -1, 0, count - 1, count, 7, 8, GREATEST}, edges(0, 2), edges(0, 255)},
                (x, a) -> x.carve(a[0], a[1], a[2]),
                index(a -> isOff(a[0], 0, count - 1) || isOff(a[1], 0, 2)), argument(a -> isOff(a[2], 0, 255)));
        }
    }

    private static void match() {
        mixtures("some count", RefusalTest::begun, new int[][] {edges(0, 3)}, (x, a) -> x.match(a[0]),
            index(a -> isOff(a[0], 0, 3)));
        mixtures("no shapes", () -> room(0, 1, 1), new int[][] {edges(0, 3)}, (x, a) -> x.match(a[0]),
            state(true), index(a -> isOff(a[0], 0, 3)));
    }

    private static void kind() {
        for (int count = 0; count <= 16; count++) {
            int nodes = count;
            mixtures("behind " + count, () -> room(0, nodes, 0), new int[][] {edges(0, 1000)},
                (x, a) -> x.kind(a[0]), argument(a -> isOff(a[0], 0, 1000)), state(nodes == 16));
        }
    }

    private static void question() {
        for (int count : new int[] {0, 1, 2, 15, 16}) {
            int[] nodes = {LEAST, -1, 0, count - 1, count, 15, 16, GREATEST};
            mixtures("behind " + count, () -> room(0, count, 0), new int[][] {edges(0, 15), nodes, nodes},
                (x, a) -> x.question(a[0], a[1], a[2]),
                index(a -> isOff(a[1], 0, count - 1) || isOff(a[2], 0, count - 1)),
                argument(a -> isOff(a[0], 0, 15)), state(count == 16));
        }
    }

    private static void ask() {
        for (int count : new int[] {0, 1, 16}) {
            mixtures("of " + count, () -> room(0, count, 0), new int[][] {edges(0, 65535), edges(0, 65535)},
                (x, a) -> x.ask(a[0], a[1]), argument(a -> isOff(a[0], 0, 65535) || isOff(a[1], 0, 65535)),
                state(count == 0));
        }
    }

    private static void rule() {
        int[] places = {-1, 0, 2, 3, 4};
        int[] depths = {-1, 0, 7, 255, 256};
        int[] years = {-10001, -10000, 5, 10000, 10001};
        for (int count : new int[] {0, 7, 8}) {
            mixtures("behind " + count, () -> room(0, 0, count),
                new int[][] {places, places, depths, depths, years, years},
                (x, a) -> x.rule(a[0], a[1], a[2], a[3], a[4], a[5]),
                index(a -> isOff(a[0], 0, 3) || isOff(a[1], 0, 3)),
                argument(a -> a[1] < a[0] || isOff(a[2], 0, 255) || isOff(a[3], a[2], 255)
                    || isOff(a[4], -10000, 10000) || isOff(a[5], a[4], 10000)),
                state(count == 8));
        }
    }

    private static void age() {
        for (int count : new int[] {0, 1, 8}) {
            mixtures("of " + count, () -> room(0, 0, count), new int[][] {edges(0, 1)}, (x, a) -> x.age(a[0]),
                index(a -> isOff(a[0], 0, 1)), state(count == 0));
        }
    }
}
