/** Promises 9 to 11: shape, carve, match. */
public final class ShapeTest {
    private static final Check CHECK = new Check();

    public static void main(String[] args) {
        numbers();
        newShapesAreEven();
        carving();
        leastByCover();
        ties();
        halfCover();
        lostAndGuesses();
        wrongShapes();
        wrongCarvings();
        wrongMatches();
        CHECK.end();
    }

    private static void due(String what, RubbingMirrors x, int shape, int place, int miss, int cover) {
        CHECK.due(what + ": SHAPE", shape, x.match(0));
        CHECK.due(what + ": place", place, x.match(1));
        CHECK.due(what + ": MISS", miss, x.match(2));
        CHECK.due(what + ": COVER", cover, x.match(3));
    }

    private static void addShape(RubbingMirrors x, int... depths) {
        int number = x.shape(depths.length);
        for (int k = 0; k < depths.length; k++) {
            x.carve(number, k, depths[k]);
        }
    }

    private static RubbingMirrors withShapes(int count) {
        RubbingMirrors x = Rows.of(0, 50, 100, 200);
        for (int s = 0; s < count; s++) {
            x.shape(2 + s);
        }
        return x;
    }

    private static void numbers() {
        RubbingMirrors x = new RubbingMirrors(4);
        for (int s = 0; s < 8; s++) {
            CHECK.due("number", s, x.shape(s == 0 ? 16 : 2));
        }
    }

    private static void newShapesAreEven() {
        RubbingMirrors x = Rows.of(0, 0, 120, 130, 127, 0, 0, 0);
        x.shape(3);
        due("all depths are 128", x, 0, 2, 8 + 2 + 1, 3);
    }

    private static void carving() {
        RubbingMirrors x = Rows.of(0, 255, 0, 9, 8, 7);
        addShape(x, 9, 8);
        addShape(x, 255, 3, 4);
        due("the first", x, 0, 3, 0, 2);
        x.carve(0, 0, 255);
        x.carve(0, 1, 200);
        due("the first carved anew", x, 1, 1, 8, 3);
        x.carve(1, 1, 0);
        x.carve(1, 2, 9);
        due("carved further", x, 1, 1, 0, 3);
    }

    private static void leastByCover() {
        RubbingMirrors x = Rows.of(100, 100, 0, 0);
        addShape(x, 103, 103, 0, 0);
        addShape(x, 102, 102);
        due("6 / 4 is before 4 / 2", x, 0, 0, 6, 4);
        RubbingMirrors y = Rows.of(100, 100, 0, 0);
        addShape(y, 103, 102, 0, 0);
        addShape(y, 101, 101);
        due("2 / 2 is before 5 / 4, though both are 1 if cut off", y, 1, 0, 2, 2);
    }

    private static void ties() {
        RubbingMirrors x = Rows.of(100, 100, 0, 0);
        addShape(x, 101, 101);
        addShape(x, 101, 101, 1, 1);
        due("the greatest cover, 4 / 4 and 2 / 2", x, 1, 0, 4, 4);
        RubbingMirrors y = Rows.of(50, 60, 90, 70, 80);
        addShape(y, 70, 80);
        addShape(y, 50, 60);
        due("the least shape before the least place", y, 0, 3, 0, 2);
        RubbingMirrors z = Rows.of(9, 9, 9, 9);
        addShape(z, 9, 9);
        due("the least place", z, 0, 0, 0, 2);
    }

    private static void halfCover() {
        RubbingMirrors x = Rows.of(0, 0, 0, 77);
        addShape(x, 77, 200);
        due("one of two is enough, over the end", x, 0, 3, 0, 1);
        RubbingMirrors y = Rows.of(0, 0, 0, 77);
        addShape(y, 77, 200, 200);
        due("one of three is not", y, 0, 2, 77 + 123, 2);
        RubbingMirrors z = Rows.of(0, 0, 40, 77);
        addShape(z, 40, 77, 200);
        due("two of three are", z, 0, 2, 0, 2);
        RubbingMirrors w = Rows.of(77, 0, 0, 0);
        addShape(w, 200, 77);
        due("there is no place below 0", w, 0, 0, 200, 2);
        CHECK.refused("four places of sixteen", Check.STATE, () -> longShape(4), v -> v.match(0));
        CHECK.refused("seven places of sixteen", Check.STATE, () -> longShape(7), v -> v.match(0));
        due("eight places of sixteen", longShape(8), 0, 0, 128 * 8, 8);
    }

    private static RubbingMirrors longShape(int n) {
        RubbingMirrors x = new RubbingMirrors(n);
        for (int k = 0; k < n; k++) {
            x.depth(k, 0);
        }
        x.shape(16);
        return x;
    }

    private static void lostAndGuesses() {
        RubbingMirrors x = Rows.of(0, -1, 60, -1, -1, -1);
        addShape(x, 5, 60);
        due("lost places miss nothing", x, 0, 1, 0, 1);
        x.fill(2, -1);
        CHECK.due("4 is a guess of 60", 60, x.place(4, 0));
        due("a guess covers", x, 0, 1, 0, 1);
        x.carve(0, 0, 60);
        x.carve(0, 1, 0);
        due("the cover of a lone place", x, 0, 2, 0, 1);
        x.depth(3, 0);
        due("guess and known", x, 0, 2, 0, 2);
        x.depth(2, 1);
        x.depth(1, 200);
        x.depth(5, 0);
        due("a guess and a known place", x, 0, 4, 0, 2);
    }

    private static void wrongShapes() {
        for (int length : new int[] {Integer.MIN_VALUE, -1, 0, 1, 17, Integer.MAX_VALUE}) {
            CHECK.refused("shape " + length, Check.ARGUMENT, Rows::full, x -> x.shape(length));
            CHECK.refused("shape " + length + ", no room", Check.ARGUMENT, () -> withShapes(8), x -> x.shape(length));
        }
        CHECK.refused("the ninth shape", Check.STATE, () -> withShapes(8), x -> x.shape(2));
    }

    private static void wrongCarvings() {
        for (int s : new int[] {Integer.MIN_VALUE, -1, 2, 8, Integer.MAX_VALUE}) {
            CHECK.refused("carve shape " + s, Check.INDEX, () -> withShapes(2), x -> x.carve(s, 0, 0));
        }
        CHECK.refused("carve no shapes", Check.INDEX, () -> withShapes(0), x -> x.carve(0, 0, 0));
        for (int k : new int[] {Integer.MIN_VALUE, -1, 2, 16, Integer.MAX_VALUE}) {
            CHECK.refused("carve place " + k, Check.INDEX, () -> withShapes(2), x -> x.carve(0, k, 0));
            CHECK.refused("carve place " + k + " by 256", Check.INDEX, () -> withShapes(2), x -> x.carve(0, k, 256));
        }
        for (int v : new int[] {Integer.MIN_VALUE, -1, 256, Integer.MAX_VALUE}) {
            CHECK.refused("carve " + v, Check.ARGUMENT, () -> withShapes(2), x -> x.carve(1, 2, v));
        }
    }

    private static void wrongMatches() {
        CHECK.refused("no shapes", Check.STATE, () -> withShapes(0), x -> x.match(0));
        CHECK.refused("nothing but lost places", Check.STATE, ShapeTest::allLost, x -> x.match(0));
        for (int what : new int[] {Integer.MIN_VALUE, -1, 4, Integer.MAX_VALUE}) {
            CHECK.refused("match " + what, Check.INDEX, () -> withShapes(1), x -> x.match(what));
            CHECK.refused("match " + what + ", none counts", Check.STATE, ShapeTest::allLost, x -> x.match(what));
        }
    }

    private static RubbingMirrors allLost() {
        RubbingMirrors x = new RubbingMirrors(8);
        x.shape(2);
        return x;
    }
}
