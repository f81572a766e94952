/** Makers of objects that several tests use. */
final class Rows {
    private Rows() {
    }

    /** A row of just these depths. */
    static RubbingMirrors of(int... depths) {
        RubbingMirrors x = new RubbingMirrors(depths.length);
        for (int k = 0; k < depths.length; k++) {
            x.depth(k, depths[k]);
        }
        return x;
    }

    /** Something of everything, with lost places and guesses. */
    static RubbingMirrors full() {
        RubbingMirrors x = of(10, 20, 30, -1, 200, 30, 21, 10, -1, -1, 30, 200);
        x.fill(4, RubbingMirrors.NONE);
        x.depth(9, RubbingMirrors.NONE);
        x.shape(3);
        x.carve(0, 1, 77);
        x.kind(5);
        x.kind(6);
        x.question(2, 0, 1);
        x.rule(0, 2, 0, 100, -50, 50);
        return x;
    }
}
