/** Promise 4: mirror. */
public final class MirrorTest {
    private static final Check CHECK = new Check();

    public static void main(String[] args) {
        ordinary();
        leastByPairs();
        tieOfQuotients();
        tieOfAll();
        fewPairs();
        guessesDoNotCount();
        wrongInputs();
        CHECK.end();
    }

    private static void due(String what, RubbingMirrors x, long a, long off, long pairs) {
        CHECK.due(what + ": a", a, x.mirror(0));
        CHECK.due(what + ": OFF", off, x.mirror(1));
        CHECK.due(what + ": PAIRS", pairs, x.mirror(2));
    }

    private static void ordinary() {
        due("even", Rows.of(0, 50, 90, 200, 200, 91, 50, 3), 7, 10, 4);
        due("odd", Rows.of(0, 50, 90, 90, 50, 0, 255), 5, 0, 3);
        due("the deepest differences", Rows.of(0, -1, -1, 255), 3, 65025, 1);
    }

    private static void leastByPairs() {
        // a = 5 has the lesser OFF, 9, but of one pair only.
        due("13 / 2 is before 9 / 1", Rows.of(0, 8, 6, 3), 3, 13, 2);
        // Both quotients are 4 if cut off; a = 3 has the more pairs.
        due("4 / 1 is before 9 / 2", Rows.of(0, 5, 5, 3), 4, 4, 1);
    }

    private static void tieOfQuotients() {
        // Every pair is equal, so that all OFFs are 0: the most pairs, then the least a.
        due("most pairs, even n", Rows.of(7, 7, 7, 7, 7, 7, 7, 7), 7, 0, 4);
        due("most pairs, odd n", Rows.of(7, 7, 7, 7, 7), 3, 0, 2);
        // 1 / 1 (a = 1) and 2 / 2 (a = 6): the quotients tie, though not the OFFs.
        due("1 / 1 and 2 / 2", Rows.of(101, 100, 200, -1, 201, 101), 6, 2, 2);
    }

    private static void tieOfAll() {
        due("the least a", Rows.of(5, 5, -1, 5, 5), 4, 0, 2);
        due("the least a of singles", Rows.of(1, 1, 200, 200), 1, 0, 1);
    }

    private static void fewPairs() {
        // n = 8: two pairs at least.
        CHECK.refused("one pair of two", Check.STATE, () -> Rows.of(5, 5, -1, -1, -1, -1, -1, -1), x -> x.mirror(0));
        due("two pairs", Rows.of(5, 9, 5, 9, -1, -1, -1, -1), 3, 32, 2);
        // n = 7: cut off, one is enough.
        due("one pair of n = 7", Rows.of(-1, -1, -1, -1, -1, 4, 6), 11, 4, 1);
        due("one pair of n = 4, the last mirror that has one", Rows.of(-1, -1, 4, 6), 5, 4, 1);
        CHECK.refused("none known", Check.STATE, () -> new RubbingMirrors(4), x -> x.mirror(0));
        CHECK.refused("one known: it is no pair with itself", Check.STATE, () -> Rows.of(-1, 4, -1, -1),
            x -> x.mirror(0));
        // n = 64: 16 pairs at least.
        CHECK.refused("fifteen pairs", Check.STATE, () -> firstKnown(31), x -> x.mirror(0));
        due("sixteen pairs", firstKnown(32), 31, 0, 16);
    }

    private static RubbingMirrors firstKnown(int count) {
        RubbingMirrors x = new RubbingMirrors(64);
        for (int k = 0; k < count; k++) {
            x.depth(k, 9);
        }
        return x;
    }

    private static void guessesDoNotCount() {
        RubbingMirrors x = Rows.of(5, 5, 90, -1);
        x.fill(1, -1);
        due("a guess is in no pair", x, 1, 0, 1);
        CHECK.due("it is a guess", 90, x.place(3, 0));
    }

    private static void wrongInputs() {
        for (int what : new int[] {Integer.MIN_VALUE, -1, 3, Integer.MAX_VALUE}) {
            CHECK.refused("mirror " + what, Check.INDEX, Rows::full, x -> x.mirror(what));
            CHECK.refused("mirror " + what + ", none counts", Check.STATE, () -> new RubbingMirrors(9),
                x -> x.mirror(what));
        }
    }
}
