/** The boundary cases of filling and of promises 7 and 8, a test for each sentence that names one. */
public final class FillEdgesTest {
    private static final Check CHECK = new Check();
    private static final int NONE = RubbingMirrors.NONE;

    public static void main(String[] args) {
        CHECK.sentence("FILLED by a step s (0: none) and a mirror a (NONE: none)", FillEdgesTest::noneOfBoth);
        CHECK.sentence("each LOST place k in turn, from 0 on", FillEdgesTest::everyPlace);
        CHECK.sentence("the first KNOWN one of k - s, k + s, k - 2 s, k + 2 s", FillEdgesTest::orderOfSources);
        CHECK.sentence("k - 8 s, k + 8 s", FillEdgesTest::eightAndNoFarther);
        CHECK.sentence("KNOWN: on the row", FillEdgesTest::overTheEnds);
        CHECK.sentence("KNOWN: no GUESS, not even one of the same call", FillEdgesTest::guessesGiveNothing);
        CHECK.sentence("else of a - k, if that is KNOWN", FillEdgesTest::byMirror);
        CHECK.sentence("it is a GUESS then; else it stays LOST", FillEdgesTest::guessOrLost);
        CHECK.sentence("FILLED: how many places.", FillEdgesTest::howMany);
        CHECK.sentence("IllegalArgumentException: step is not 0 .. n - 1", FillEdgesTest::stepRange);
        CHECK.sentence("or mirror not NONE .. 2 n - 2", FillEdgesTest::mirrorRange);
        CHECK.sentence("All GUESSES are LOST again: how many there were.", FillEdgesTest::forgetting);
        CHECK.end();
    }

    /** A row of 64 places with depths at some: place, depth, place, depth .. */
    private static RubbingMirrors sparse(int... told) {
        RubbingMirrors x = new RubbingMirrors(64);
        for (int i = 0; i < told.length; i += 2) {
            x.depth(told[i], told[i + 1]);
        }
        return x;
    }

    private static void due(String what, RubbingMirrors x, int... depths) {
        for (int k = 0; k < depths.length; k++) {
            CHECK.due(what + ": place " + k, depths[k], x.place(k, 0));
        }
    }

    private static void noneOfBoth() {
        RubbingMirrors x = Rows.of(1, NONE, 3, NONE);
        CHECK.due("neither", 0, x.fill(0, NONE));
        due("neither", x, 1, NONE, 3, NONE);
        CHECK.due("step 0 with a mirror", 1, x.fill(0, 1));
        due("step 0 with a mirror", x, 1, 1, 3, NONE);
        CHECK.due("a step without a mirror", 1, x.fill(1, NONE));
        due("a step without a mirror", x, 1, 1, 3, 3);
        RubbingMirrors y = Rows.of(NONE, 2, 3, 4);
        CHECK.due("mirror 0 is no other than NONE: 0 is its own image", 0, y.fill(0, 0));
        CHECK.due("mirror NONE", 0, y.fill(0, NONE));
    }

    private static void everyPlace() {
        for (int lost = 0; lost < 64; lost++) {
            RubbingMirrors x = sparse();
            for (int k = 0; k < 64; k++) {
                x.depth(k, k == lost ? NONE : 100 + k);
            }
            CHECK.due("place " + lost + " alone", 1, x.fill(1, NONE));
            CHECK.due("place " + lost, lost == 0 ? 101 : 99 + lost, x.place(lost, 0));
        }
    }

    private static void orderOfSources() {
        int k = 32;
        for (int s = 1; s <= 3; s++) {
            for (int j = 1; j <= 8; j++) {
                RubbingMirrors x = sparse(k - j * s, 10, k + j * s, 20);
                x.fill(s, NONE);
                CHECK.due("k - " + j + " * " + s + " is before k + " + j + " * " + s, 10, x.place(k, 0));
                RubbingMirrors y = sparse(k + j * s, 20, k - (j + 1) * s, 30);
                y.fill(s, NONE);
                CHECK.due("k + " + j + " * " + s + " is before k - " + (j + 1) + " * " + s, 20, y.place(k, 0));
                RubbingMirrors z = sparse(k + j * s, 20, 0, 40);
                z.fill(s, k);
                CHECK.due("k + " + j + " * " + s + " is before the mirror", 20, z.place(k, 0));
            }
        }
    }

    private static void eightAndNoFarther() {
        for (int s = 1; s <= 6; s++) {
            RubbingMirrors x = sparse(0, 5);
            x.fill(s, NONE);
            CHECK.due("k - 8 * " + s, 5, x.place(8 * s, 0));
            CHECK.due("k - 9 * " + s, NONE, x.place(9 * s, 0));
            RubbingMirrors y = sparse(63, 6);
            y.fill(s, NONE);
            CHECK.due("k + 8 * " + s, 6, y.place(63 - 8 * s, 0));
            CHECK.due("k + 9 * " + s, NONE, y.place(63 - 9 * s, 0));
            RubbingMirrors z = sparse(0, 7);
            z.fill(s, 9 * s);
            CHECK.due("the mirror goes farther than 8 * " + s, 7, z.place(9 * s, 0));
        }
        RubbingMirrors x = sparse(0, 5);
        CHECK.due("step 7", 8, x.fill(7, NONE));
        CHECK.due("step 8 fills what 7 has not", 6, x.fill(8, NONE));
        CHECK.due("8 * 7", 5, x.place(56, 0));
        CHECK.due("63 is 9 * 7", NONE, x.place(63, 0));
    }

    private static void overTheEnds() {
        for (int n : new int[] {4, 64}) {
            for (int step = 1; step < n; step++) {
                RubbingMirrors x = new RubbingMirrors(n);
                x.depth(0, 1);
                x.fill(step, NONE);
                CHECK.due("from the first place by " + step, 1, x.place(step, 0));
                RubbingMirrors y = new RubbingMirrors(n);
                y.depth(n - 1, 2);
                y.fill(step, NONE);
                CHECK.due("from the last place by " + step, 2, y.place(n - 1 - step, 0));
            }
        }
        RubbingMirrors x = Rows.of(NONE, 5, 6, NONE);
        CHECK.due("the last step reaches neither end", 0, x.fill(3, NONE));
        CHECK.due("the ends do not meet", 2, x.fill(1, NONE));
        due("each end by its neighbour", x, 5, 5, 6, 6);
    }

    private static void guessesGiveNothing() {
        RubbingMirrors x = Rows.of(4, NONE, NONE, NONE, NONE, NONE, NONE, NONE, NONE, NONE, NONE, NONE);
        CHECK.due("eight from place 0, none from the guesses", 8, x.fill(1, NONE));
        due("one call", x, 4, 4, 4, 4, 4, 4, 4, 4, 4, NONE, NONE, NONE);
        CHECK.due("nor in a second call", 0, x.fill(1, NONE));
        CHECK.due("nor by a mirror", 0, x.fill(0, 16));
        CHECK.due("nor is a guess filled anew", 0, x.fill(0, 5));
        x.depth(8, 9);
        CHECK.due("when it is told it gives", 3, x.fill(1, NONE));
        due("then", x, 4, 4, 4, 4, 4, 4, 4, 4, 9, 9, 9, 9);
    }

    private static void byMirror() {
        for (int n = 4; n <= 6; n++) {
            for (int a = 0; a <= 2 * n - 2; a++) {
                for (int k = 0; k < n; k++) {
                    RubbingMirrors x = new RubbingMirrors(n);
                    x.depth(k, 77);
                    int image = a - k;
                    boolean fills = image >= 0 && image < n && image != k;
                    CHECK.due("n = " + n + ", mirror " + a + ", known " + k, fills ? 1 : 0, x.fill(0, a));
                    CHECK.due("n = " + n + ", mirror " + a + ", image of " + k, fills ? 77 : NONE,
                        x.place(fills ? image : k == 0 ? 1 : 0, 0));
                }
            }
        }
        RubbingMirrors x = Rows.of(10, NONE, 30, NONE, NONE, 60);
        CHECK.due("by the step if it can be, else by the mirror", 3, x.fill(3, 6));
        due("both", x, 10, 60, 30, 10, 30, 60);
    }

    private static void guessOrLost() {
        RubbingMirrors x = Rows.of(0, NONE, NONE, NONE, NONE);
        CHECK.due("two places", 2, x.fill(2, 4));
        int[] guess = {0, 0, 1, 0, 1};
        for (int k = 0; k < guess.length; k++) {
            CHECK.due("guess of place " + k, guess[k], x.place(k, 1));
            CHECK.due("depth of place " + k, k % 2 == 0 ? 0 : NONE, x.place(k, 0));
        }
    }

    private static void howMany() {
        for (int n : new int[] {4, 64}) {
            CHECK.due("an empty row", 0, new RubbingMirrors(n).fill(1, n - 1));
            RubbingMirrors x = new RubbingMirrors(n);
            for (int k = 0; k < n; k++) {
                x.depth(k, k);
            }
            CHECK.due("a row without a lost place", 0, x.fill(1, n - 1));
        }
        CHECK.due("all but one", 3, Rows.of(NONE, 9, NONE, NONE).fill(1, NONE));
        CHECK.due("all but four", 60, sparse(8, 1, 25, 1, 42, 1, 55, 1).fill(1, NONE));
    }

    private static void stepRange() {
        for (int n : new int[] {4, 5, 63, 64}) {
            CHECK.range("n = " + n + ", fill by", 0, n - 1, Check.ARGUMENT, () -> new RubbingMirrors(n),
                (x, step) -> x.fill(step, NONE));
        }
        // The mirror alone would fill place 9 from 10.
        CHECK.range("fill with mirror 19 by", 0, 11, Check.ARGUMENT, Rows::full, (x, step) -> x.fill(step, 19));
        CHECK.due("it would", 1, Rows.full().fill(0, 19));
    }

    private static void mirrorRange() {
        for (int n : new int[] {4, 5, 63, 64}) {
            CHECK.range("n = " + n + ", fill with mirror", NONE, 2 * n - 2, Check.ARGUMENT,
                () -> new RubbingMirrors(n), (x, mirror) -> x.fill(0, mirror));
        }
        // The step alone would fill place 9 from 10.
        CHECK.range("fill by 1 with mirror", NONE, 22, Check.ARGUMENT, Rows::full, (x, mirror) -> x.fill(1, mirror));
        CHECK.due("it would", 1, Rows.full().fill(1, NONE));
        CHECK.refused("both are wrong", Check.ARGUMENT, Rows::full, x -> x.fill(12, 23));
        CHECK.refused("both are below", Check.ARGUMENT, Rows::full, x -> x.fill(-1, -2));
    }

    private static void forgetting() {
        CHECK.due("an empty row", 0, new RubbingMirrors(4).forget());
        CHECK.due("known places", 0, Rows.of(1, 2, 3, 4).forget());
        RubbingMirrors x = Rows.of(NONE, 0, NONE, NONE);
        x.fill(1, NONE);
        CHECK.due("guesses at both ends", 3, x.forget());
        due("forgotten", x, NONE, 0, NONE, NONE);
        for (int k = 0; k < 4; k++) {
            CHECK.due("no guess any more, place " + k, 0, x.place(k, 1));
        }
        CHECK.due("a second time", 0, x.forget());
        CHECK.due("lost places can be filled again", 3, x.fill(1, NONE));
        x.depth(0, 0);
        x.depth(2, NONE);
        CHECK.due("what was told or lost since is no guess", 1, x.forget());
        due("they stay", x, 0, 0, NONE, NONE);
        RubbingMirrors y = sparse(8, 1, 25, 1, 42, 1, 55, 1);
        y.fill(1, NONE);
        CHECK.due("sixty guesses", 60, y.forget());
        RubbingMirrors z = Rows.of(1, NONE, NONE, NONE);
        z.fill(0, 1);
        z.fill(0, 2);
        CHECK.due("guesses of two calls", 2, z.forget());
    }
}
