/** The boundary cases of the row and of promises 1 to 3, a test for each sentence that names one. */
public final class RowEdgesTest {
    private static final Check CHECK = new Check();
    private static final int NONE = RubbingMirrors.NONE;
    private static final int[] SIZES = {4, 5, 63, 64};

    public static void main(String[] args) {
        CHECK.sentence("So many places: the nearest of 4 .. 64.", RowEdgesTest::nearestSize);
        CHECK.sentence("THE ROW has n places 0 .. n - 1", RowEdgesTest::placesOfTheRow);
        CHECK.sentence("each with a DEPTH 0 .. 255", RowEdgesTest::everyDepth);
        CHECK.sentence("or LOST (at first)", RowEdgesTest::lostAtFirst);
        CHECK.sentence("A DEPTH; NONE makes the place LOST.", RowEdgesTest::noneLoses);
        CHECK.sentence("a place that was filled is a GUESS", RowEdgesTest::filledIsGuess);
        CHECK.sentence("KNOWN is what is neither LOST nor a GUESS", RowEdgesTest::toldOverGuessIsKnown);
        CHECK.sentence("IllegalArgumentException: v is not NONE .. 255.", RowEdgesTest::depthRange);
        CHECK.sentence("depth: of several exceptions the one named first", RowEdgesTest::depthOrder);
        CHECK.sentence("DEPTH (what = 0; NONE if it is LOST), 1 if it is a GUESS (1)", RowEdgesTest::placeAnswers);
        CHECK.sentence("place: IndexOutOfBoundsException.", RowEdgesTest::placeRange);
        CHECK.end();
    }

    private static void nearestSize() {
        for (int n = -70; n <= 140; n++) {
            CHECK.due("places of new " + n, n < 4 ? 4 : n > 64 ? 64 : n, Seen.places(new RubbingMirrors(n)));
        }
        CHECK.due("places of the least number", 4, Seen.places(new RubbingMirrors(Integer.MIN_VALUE)));
        CHECK.due("places of the greatest number", 64, Seen.places(new RubbingMirrors(Integer.MAX_VALUE)));
    }

    private static void placesOfTheRow() {
        for (int n : SIZES) {
            CHECK.range("depth, n = " + n + ", k =", 0, n - 1, Check.INDEX, () -> new RubbingMirrors(n),
                (x, k) -> x.depth(k, 5));
            CHECK.range("place, n = " + n + ", k =", 0, n - 1, Check.INDEX, () -> new RubbingMirrors(n),
                (x, k) -> x.place(k, 0));
            CHECK.range("guess, n = " + n + ", k =", 0, n - 1, Check.INDEX, () -> new RubbingMirrors(n),
                (x, k) -> x.place(k, 1));
        }
    }

    private static void everyDepth() {
        for (int n : SIZES) {
            RubbingMirrors x = new RubbingMirrors(n);
            for (int k = 0; k < n; k++) {
                x.depth(k, 255 - k);
            }
            for (int k = 0; k < n; k++) {
                CHECK.due("depth of place " + k + " of " + n, 255 - k, x.place(k, 0));
            }
        }
        for (int v = 0; v <= 255; v++) {
            CHECK.due("depth " + v, v, Rows.of(7, 7, v, 7).place(2, 0));
        }
    }

    private static void lostAtFirst() {
        for (int n : SIZES) {
            RubbingMirrors x = new RubbingMirrors(n);
            for (int k = 0; k < n; k++) {
                CHECK.due("depth of place " + k + " of " + n, NONE, x.place(k, 0));
                CHECK.due("guess of place " + k + " of " + n, 0, x.place(k, 1));
            }
        }
    }

    private static void noneLoses() {
        RubbingMirrors x = Rows.of(5, 5, 5, NONE);
        x.fill(1, NONE);
        for (int k = 0; k < 4; k++) {
            x.depth(k, NONE);
            CHECK.due("depth of place " + k, NONE, x.place(k, 0));
            CHECK.due("guess of place " + k, 0, x.place(k, 1));
        }
        x.depth(0, NONE);
        CHECK.due("lost twice", NONE, x.place(0, 0));
        CHECK.due("no guess is left", 0, x.forget());
        CHECK.due("a row that is lost again has no mirror", Check.STATE.getName(), Check.thrownBy(() -> x.mirror(0)));
    }

    private static void filledIsGuess() {
        RubbingMirrors x = Rows.of(NONE, 0, NONE, NONE);
        CHECK.due("filled by step and mirror", 3, x.fill(1, 4));
        for (int k = 0; k < 4; k++) {
            CHECK.due("guess of place " + k, k == 1 ? 0 : 1, x.place(k, 1));
            CHECK.due("depth of place " + k, 0, x.place(k, 0));
        }
    }

    private static void toldOverGuessIsKnown() {
        RubbingMirrors x = Rows.of(9, NONE, NONE, NONE);
        x.fill(1, NONE);
        CHECK.due("guesses are in no sum", 0, x.sum(1));
        x.depth(1, 9);
        CHECK.due("told anew, though as deep as the guess", 0, x.place(1, 1));
        CHECK.due("it is in the sum", 119 * 119, x.sum(1));
        CHECK.due("it is in a pair", 1, x.mirror(0));
        CHECK.due("it is not forgotten", 2, x.forget());
        CHECK.due("it stays", 9, x.place(1, 0));
        x.depth(0, NONE);
        CHECK.due("it fills others", 3, x.fill(1, NONE));
    }

    private static void depthRange() {
        for (int n : SIZES) {
            for (int k : new int[] {0, n - 1}) {
                CHECK.range("depth of place " + k + " of " + n, NONE, 255, Check.ARGUMENT,
                    () -> new RubbingMirrors(n), (x, v) -> x.depth(k, v));
            }
        }
        // Known, a guess and lost: a refused depth leaves each as it is.
        for (int k : new int[] {0, 3, 9}) {
            CHECK.range("depth of place " + k, NONE, 255, Check.ARGUMENT, Rows::full, (x, v) -> x.depth(k, v));
        }
    }

    private static void depthOrder() {
        for (int k : new int[] {Integer.MIN_VALUE, -1, 12, Integer.MAX_VALUE}) {
            for (int v : new int[] {Integer.MIN_VALUE, -2, 256, Integer.MAX_VALUE}) {
                CHECK.refused("depth " + k + " " + v, Check.INDEX, Rows::full, x -> x.depth(k, v));
            }
        }
    }

    private static void placeAnswers() {
        RubbingMirrors x = Rows.of(0, 255, NONE, 8, NONE, NONE);
        x.fill(0, 7);
        int[][] due = {{0, 0}, {255, 0}, {NONE, 0}, {8, 0}, {8, 1}, {NONE, 0}};
        for (int k = 0; k < due.length; k++) {
            CHECK.due("depth of place " + k, due[k][0], x.place(k, 0));
            CHECK.due("guess of place " + k, due[k][1], x.place(k, 1));
        }
    }

    private static void placeRange() {
        for (int k : new int[] {0, 3, 9, 11}) {
            CHECK.range("place " + k + ", what =", 0, 1, Check.INDEX, Rows::full, (x, what) -> x.place(k, what));
        }
        for (int k : new int[] {-1, 12}) {
            for (int what : new int[] {-1, 2}) {
                CHECK.refused("place " + k + " " + what, Check.INDEX, Rows::full, x -> x.place(k, what));
            }
        }
    }
}
