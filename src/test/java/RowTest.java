/** Promises 1 to 3: a new object, depth, place. */
public final class RowTest {
    private static final Check CHECK = new Check();

    public static void main(String[] args) {
        newObject();
        depthAndPlace();
        depthOverGuess();
        wrongInputs();
        CHECK.end();
    }

    private static void newObject() {
        int[][] sizes = {{Integer.MIN_VALUE, 4}, {-1, 4}, {0, 4}, {3, 4}, {4, 4}, {5, 5}, {12, 12}, {63, 63}, {64, 64},
            {65, 64}, {Integer.MAX_VALUE, 64}};
        for (int[] size : sizes) {
            RubbingMirrors x = new RubbingMirrors(size[0]);
            CHECK.due("places of new " + size[0], size[1], Seen.places(x));
            for (int k = 0; k < size[1]; k++) {
                CHECK.due("new depth " + k, RubbingMirrors.NONE, x.place(k, 0));
                CHECK.due("new guess " + k, 0, x.place(k, 1));
            }
            CHECK.due("new forget", 0, x.forget());
        }
        CHECK.due("NONE", -1, RubbingMirrors.NONE);
    }

    private static void depthAndPlace() {
        RubbingMirrors x = new RubbingMirrors(4);
        x.depth(0, 0);
        x.depth(3, 255);
        CHECK.due("depth 0", 0, x.place(0, 0));
        CHECK.due("depth 1", -1, x.place(1, 0));
        CHECK.due("depth 3", 255, x.place(3, 0));
        CHECK.due("no guess", 0, x.place(3, 1));
        x.depth(3, RubbingMirrors.NONE);
        CHECK.due("lost", -1, x.place(3, 0));
        RubbingMirrors other = new RubbingMirrors(4);
        CHECK.due("objects are apart", -1, other.place(0, 0));
    }

    private static void depthOverGuess() {
        RubbingMirrors x = Rows.of(9, -1, -1, -1);
        CHECK.due("filled", 3, x.fill(1, -1));
        CHECK.due("is a guess", 1, x.place(1, 1));
        x.depth(1, 7);
        CHECK.due("told over a guess", 7, x.place(1, 0));
        CHECK.due("no guess any more", 0, x.place(1, 1));
        x.depth(2, RubbingMirrors.NONE);
        CHECK.due("lost over a guess", -1, x.place(2, 0));
        CHECK.due("lost is no guess", 0, x.place(2, 1));
        CHECK.due("one guess is left", 1, x.forget());
        CHECK.due("what was told stays", 7, x.place(1, 0));
    }

    private static void wrongInputs() {
        for (int k : new int[] {Integer.MIN_VALUE, -1, 12, Integer.MAX_VALUE}) {
            CHECK.refused("depth of place " + k, Check.INDEX, Rows::full, x -> x.depth(k, 5));
            CHECK.refused("depth 256 of place " + k, Check.INDEX, Rows::full, x -> x.depth(k, 256));
            CHECK.refused("place " + k, Check.INDEX, Rows::full, x -> x.place(k, 0));
        }
        for (int v : new int[] {Integer.MIN_VALUE, -2, 256, Integer.MAX_VALUE}) {
            CHECK.refused("depth " + v, Check.ARGUMENT, Rows::full, x -> x.depth(0, v));
        }
        for (int what : new int[] {Integer.MIN_VALUE, -1, 2, Integer.MAX_VALUE}) {
            CHECK.refused("place what " + what, Check.INDEX, Rows::full, x -> x.place(0, what));
        }
    }
}
