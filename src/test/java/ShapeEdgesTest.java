/** The boundary cases of shapes and of promises 9 to 11, a test for each sentence that names one. */
public final class ShapeEdgesTest {
    private static final Check CHECK = new Check();
    private static final int NONE = RubbingMirrors.NONE;

    public static void main(String[] args) {
        CHECK.sentence("SHAPES 0 .. 7 (as they are told)", ShapeEdgesTest::numbers);
        CHECK.sentence("have 2 .. 16 DEPTHS", ShapeEdgesTest::lengths);
        CHECK.sentence("A SHAPE more, all its DEPTHS 128", ShapeEdgesTest::newDepths);
        CHECK.sentence("shape: IllegalArgumentException: length is not 2 .. 16", ShapeEdgesTest::lengthRange);
        CHECK.sentence("shape: IllegalStateException: there are 8.", ShapeEdgesTest::fullCatalogue);
        CHECK.sentence("carve: A DEPTH of a SHAPE.", ShapeEdgesTest::everyCarving);
        CHECK.sentence("carve: IndexOutOfBoundsException: no such shape", ShapeEdgesTest::shapeRange);
        CHECK.sentence("carve: or place in it", ShapeEdgesTest::carvedPlaceRange);
        CHECK.sentence("carve: IllegalArgumentException: v is not 0 .. 255.", ShapeEdgesTest::carvedDepthRange);
        CHECK.sentence("MISS is the sum of the sizes of differences", ShapeEdgesTest::leastAndGreatestMiss);
        CHECK.sentence("over its places that lie on the row and are not LOST", ShapeEdgesTest::onTheRowAndNotLost);
        CHECK.sentence("It counts if COVER is half its length at least (rounded up).", ShapeEdgesTest::halfCover);
        CHECK.sentence("the least MISS by COVER (compared exactly)", ShapeEdgesTest::comparedExactly);
        CHECK.sentence("of several the greatest COVER", ShapeEdgesTest::greatestCover);
        CHECK.sentence("then the least SHAPE", ShapeEdgesTest::leastShape);
        CHECK.sentence("then the least place (p from 0 to n - 1)", ShapeEdgesTest::leastPlace);
        CHECK.sentence("SHAPE (what = 0), place (1), MISS (2), COVER (3)", ShapeEdgesTest::whatRange);
        CHECK.sentence("match: IllegalStateException: none counts (first)", ShapeEdgesTest::noneCounts);
        CHECK.end();
    }

    private static void due(String what, RubbingMirrors x, int shape, int place, int miss, int cover) {
        CHECK.due(what + ": SHAPE", shape, x.match(0));
        CHECK.due(what + ": place", place, x.match(1));
        CHECK.due(what + ": MISS", miss, x.match(2));
        CHECK.due(what + ": COVER", cover, x.match(3));
    }

    private static void addShape(RubbingMirrors x, int... depths) {
        int number = x.shape(depths.length);
        for (int k = 0; k < depths.length; k++) {
            x.carve(number, k, depths[k]);
        }
    }

    private static RubbingMirrors evenRow(int n, int depth) {
        RubbingMirrors x = new RubbingMirrors(n);
        for (int k = 0; k < n; k++) {
            x.depth(k, depth);
        }
        return x;
    }

    /** So many shapes, of lengths 2, 16, 2, 16 .. */
    private static RubbingMirrors catalogue(int count) {
        RubbingMirrors x = Rows.of(0, 50, 100, 200);
        for (int s = 0; s < count; s++) {
            x.shape(s % 2 == 0 ? 2 : 16);
        }
        return x;
    }

    private static void numbers() {
        RubbingMirrors x = new RubbingMirrors(4);
        for (int s = 0; s < 8; s++) {
            CHECK.due("the number", s, x.shape(2 + s));
            CHECK.due("a refused length", Check.ARGUMENT.getName(), Check.thrownBy(() -> x.shape(17)));
        }
    }

    private static void lengths() {
        for (int length = 2; length <= 16; length++) {
            int last = length - 1;
            RubbingMirrors x = evenRow(16, 0);
            x.shape(length);
            CHECK.due("the last place of " + length, "nothing", Check.thrownBy(() -> x.carve(0, last, 0)));
            CHECK.due("beyond the last place of " + length, Check.INDEX.getName(),
                Check.thrownBy(() -> x.carve(0, last + 1, 0)));
            // The last place alone fits, so the whole shape has the least miss by cover.
            due("length " + length, x, 0, 0, 128 * last, length);
        }
    }

    private static void newDepths() {
        for (int length = 2; length <= 16; length++) {
            RubbingMirrors x = evenRow(64, 128);
            x.shape(length);
            due("on 128, length " + length, x, 0, 0, 0, length);
            RubbingMirrors y = evenRow(64, 0);
            y.shape(length);
            due("on 0, length " + length, y, 0, 0, 128 * length, length);
            RubbingMirrors z = evenRow(64, 255);
            z.shape(length);
            due("on 255, length " + length, z, 0, 0, 127 * length, length);
        }
        RubbingMirrors x = evenRow(4, 128);
        addShape(x, 0, 0);
        x.shape(2);
        due("a second shape is new too", x, 1, 0, 0, 2);
    }

    private static void lengthRange() {
        for (int count = 0; count < 8; count++) {
            int told = count;
            CHECK.range("shape behind " + count + " of length", 2, 16, Check.ARGUMENT, () -> catalogue(told),
                (x, length) -> x.shape(length));
        }
    }

    private static void fullCatalogue() {
        for (int length : new int[] {2, 3, 15, 16}) {
            CHECK.refused("the ninth shape of length " + length, Check.STATE, () -> catalogue(8),
                x -> x.shape(length));
        }
        for (int length : new int[] {Integer.MIN_VALUE, 1, 17, Integer.MAX_VALUE}) {
            CHECK.refused("the ninth shape of length " + length, Check.ARGUMENT, () -> catalogue(8),
                x -> x.shape(length));
        }
        RubbingMirrors x = catalogue(8);
        x.carve(7, 0, 0);
        x.carve(7, 1, 50);
        x.carve(7, 2, 100);
        x.carve(7, 3, 200);
        for (int k = 4; k < 16; k++) {
            x.carve(7, k, 9);
        }
        x.carve(6, 0, 0);
        x.carve(6, 1, 50);
        due("the seventh of a full catalogue, as the eighth has 4 of 16 places", x, 6, 0, 0, 2);
    }

    private static void everyCarving() {
        for (int length : new int[] {2, 16}) {
            for (int k = 0; k < length; k++) {
                for (int v : new int[] {0, 1, 127, 128, 129, 254, 255}) {
                    RubbingMirrors x = evenRow(16, 128);
                    x.depth(k, v);
                    x.shape(length);
                    x.carve(0, k, v);
                    due("length " + length + ", place " + k + ", depth " + v, x, 0, 0, 0, length);
                }
            }
        }
        RubbingMirrors x = evenRow(4, 90);
        addShape(x, 1, 1);
        x.carve(0, 0, 90);
        x.carve(0, 1, 90);
        due("carved a second time", x, 0, 0, 0, 2);
        x.carve(0, 1, 91);
        due("and a third", x, 0, 3, 0, 1);
    }

    private static void shapeRange() {
        for (int count = 1; count <= 8; count++) {
            int told = count;
            CHECK.range("carve of " + count + ", shape", 0, count - 1, Check.INDEX, () -> catalogue(told),
                (x, shape) -> x.carve(shape, 0, 5));
        }
        for (int shape : new int[] {Integer.MIN_VALUE, -1, 0, 1, 7, Integer.MAX_VALUE}) {
            CHECK.refused("empty catalogue, shape " + shape, Check.INDEX, () -> catalogue(0),
                x -> x.carve(shape, 0, 5));
            CHECK.refused("empty catalogue, shape " + shape + ", and v is wrong", Check.INDEX, () -> catalogue(0),
                x -> x.carve(shape, 0, 256));
        }
        for (int v : new int[] {-1, 256}) {
            CHECK.refused("no such shape, and v is " + v, Check.INDEX, () -> catalogue(2), x -> x.carve(2, 0, v));
        }
        CHECK.refused("no such shape, nor place", Check.INDEX, () -> catalogue(2), x -> x.carve(2, 16, 0));
    }

    private static void carvedPlaceRange() {
        for (int length = 2; length <= 16; length++) {
            int told = length;
            CHECK.range("carve of length " + length + ", place", 0, length - 1, Check.INDEX, () -> {
                RubbingMirrors x = evenRow(4, 0);
                x.shape(16);
                x.shape(told);
                x.shape(16);
                return x;
            }, (x, k) -> x.carve(1, k, 5));
        }
        for (int v : new int[] {Integer.MIN_VALUE, -1, 256, Integer.MAX_VALUE}) {
            CHECK.refused("no such place, and v is " + v, Check.INDEX, () -> catalogue(2), x -> x.carve(0, 2, v));
            CHECK.refused("place -1, and v is " + v, Check.INDEX, () -> catalogue(2), x -> x.carve(0, -1, v));
        }
    }

    private static void carvedDepthRange() {
        for (int k : new int[] {0, 1}) {
            CHECK.range("carve place " + k + " by", 0, 255, Check.ARGUMENT, () -> catalogue(8),
                (x, v) -> x.carve(0, k, v));
        }
        for (int k : new int[] {0, 15}) {
            CHECK.range("carve place " + k + " of the last by", 0, 255, Check.ARGUMENT, () -> catalogue(8),
                (x, v) -> x.carve(7, k, v));
        }
        CHECK.refused("a shape has no lost places", Check.ARGUMENT, () -> catalogue(1), x -> x.carve(0, 0, NONE));
    }

    private static void leastAndGreatestMiss() {
        RubbingMirrors x = evenRow(16, 0);
        x.shape(16);
        for (int k = 0; k < 16; k++) {
            x.carve(0, k, 255);
        }
        due("the greatest", x, 0, 0, 16 * 255, 16);
        for (int k = 0; k < 16; k++) {
            x.depth(k, 255);
        }
        due("the least", x, 0, 0, 0, 16);
        for (int k = 0; k < 16; k++) {
            x.carve(0, k, 0);
        }
        due("the greatest, the other way", x, 0, 0, 16 * 255, 16);
        RubbingMirrors y = Rows.of(100, 102, 255, 255);
        addShape(y, 102, 100);
        due("sizes do not cancel", y, 0, 0, 4, 2);
    }

    private static void onTheRowAndNotLost() {
        RubbingMirrors x = Rows.of(NONE, NONE, 10, NONE);
        addShape(x, 200, 10);
        due("a lost place before", x, 0, 1, 0, 1);
        x.carve(0, 0, 10);
        x.carve(0, 1, 200);
        due("a lost place behind", x, 0, 2, 0, 1);
        RubbingMirrors y = Rows.of(NONE, NONE, NONE, 10);
        addShape(y, 10, 200);
        due("a place beyond the row", y, 0, 3, 0, 1);
        y.fill(3, NONE);
        y.carve(0, 0, 200);
        y.carve(0, 1, 10);
        due("there is no place before the row", y, 0, 2, 0, 1);
        RubbingMirrors z = Rows.of(10, NONE, NONE, NONE);
        addShape(z, 10, 10, 10, 10);
        CHECK.due("one of four", Check.STATE.getName(), Check.thrownBy(() -> z.match(0)));
        z.fill(1, NONE);
        due("guesses are not lost", z, 0, 0, 0, 4);
        z.forget();
        CHECK.due("forgotten", Check.STATE.getName(), Check.thrownBy(() -> z.match(0)));
    }

    private static void halfCover() {
        for (int length = 2; length <= 16; length++) {
            int half = length / 2 + length % 2;
            due("just half, length " + length, known(length, half), 0, 0, 28 * half, half);
            RubbingMirrors less = known(length, half - 1);
            CHECK.due("one less, length " + length, Check.STATE.getName(), Check.thrownBy(() -> less.match(0)));
        }
        // Over the end of the row: of length L just n - half is the last place that counts.
        for (int length = 2; length <= 16; length++) {
            int half = length / 2 + length % 2;
            RubbingMirrors x = evenRow(64, 0);
            x.shape(length);
            for (int k = 0; k < half; k++) {
                x.depth(64 - half + k, 128);
            }
            due("over the end, length " + length, x, 0, 64 - half, 0, half);
        }
    }

    /** A row of 64 whose first places alone are known, 100 deep, and a new shape. */
    private static RubbingMirrors known(int length, int count) {
        RubbingMirrors x = new RubbingMirrors(64);
        for (int k = 0; k < count; k++) {
            x.depth(k, 100);
        }
        x.shape(length);
        return x;
    }

    private static void comparedExactly() {
        RubbingMirrors x = Rows.of(100, 100, 0, 0);
        addShape(x, 103, 103, 0, 0);
        addShape(x, 102, 102);
        due("6 / 4 is before 4 / 2", x, 0, 0, 6, 4);
        RubbingMirrors y = Rows.of(100, 100, 0, 0);
        addShape(y, 103, 102, 0, 0);
        addShape(y, 101, 101);
        due("2 / 2 is before 5 / 4, though both are 1 if cut off", y, 1, 0, 2, 2);
        RubbingMirrors z = evenRow(16, 0);
        addShape(z, 101, 101, 101, 101, 101, 101, 101, 101, 101, 101, 101, 101, 101, 101, 101, 100);
        addShape(z, 101, 101, 101, 101, 101, 101, 101, 101, 101, 101, 101, 101, 101, 101, 100);
        due("1514 / 15 is before 1615 / 16, by one part of 240", z, 1, 0, 1514, 15);
    }

    private static void greatestCover() {
        RubbingMirrors x = Rows.of(100, 100, 0, 0);
        addShape(x, 101, 101);
        addShape(x, 101, 101, 1, 1);
        due("2 / 2 and 4 / 4", x, 1, 0, 4, 4);
        RubbingMirrors y = Rows.of(50, NONE, 50, 60);
        addShape(y, 50, 60);
        due("0 / 1 at place 0 and 0 / 2 at place 2", y, 0, 2, 0, 2);
        RubbingMirrors z = Rows.of(50, 60, NONE, 50);
        addShape(z, 50, 60);
        due("0 / 2 at place 0 and 0 / 1 at place 3", z, 0, 0, 0, 2);
    }

    private static void leastShape() {
        RubbingMirrors x = Rows.of(50, 60, 90, 70, 80);
        addShape(x, 70, 80);
        addShape(x, 50, 60);
        due("before the least place", x, 0, 3, 0, 2);
        RubbingMirrors y = evenRow(4, 128);
        for (int s = 0; s < 8; s++) {
            y.shape(2);
        }
        due("of eight alike", y, 0, 0, 0, 2);
        y.carve(0, 0, 0);
        due("of seven alike", y, 1, 0, 0, 2);
        for (int s = 1; s < 7; s++) {
            y.carve(s, 0, 0);
        }
        due("the last", y, 7, 0, 0, 2);
    }

    private static void leastPlace() {
        RubbingMirrors x = Rows.of(9, 9, 9, 9);
        addShape(x, 9, 9);
        due("place 0 of 0, 1, 2", x, 0, 0, 0, 2);
        x.depth(0, 200);
        due("place 1 of 1, 2", x, 0, 1, 0, 2);
        for (int n : new int[] {4, 64}) {
            RubbingMirrors y = evenRow(n, 0);
            addShape(y, 77, 200);
            y.depth(n - 1, 77);
            due("the last place of n = " + n, y, 0, n - 1, 0, 1);
        }
    }

    private static void whatRange() {
        CHECK.range("match", 0, 3, Check.INDEX, () -> catalogue(1), (x, what) -> x.match(what));
        CHECK.range("match of a full catalogue", 0, 3, Check.INDEX, () -> catalogue(8), (x, what) -> x.match(what));
    }

    private static void noneCounts() {
        for (int what : new int[] {Integer.MIN_VALUE, -1, 0, 1, 2, 3, 4, Integer.MAX_VALUE}) {
            CHECK.refused("match " + what + " of an empty catalogue", Check.STATE, () -> catalogue(0),
                x -> x.match(what));
            CHECK.refused("match " + what + " on an empty row", Check.STATE, () -> known(2, 0), x -> x.match(what));
            CHECK.refused("match " + what + " of an empty catalogue and row", Check.STATE,
                () -> new RubbingMirrors(64), x -> x.match(what));
            CHECK.refused("match " + what + " of too little cover", Check.STATE, () -> known(16, 7),
                x -> x.match(what));
        }
        RubbingMirrors x = known(16, 7);
        x.shape(14);
        due("the first does not count, the second does", x, 1, 0, 28 * 7, 7);
    }
}
