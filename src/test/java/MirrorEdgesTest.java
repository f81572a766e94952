/** The boundary cases of the mirror and of promise 4, a test for each sentence that names one. */
public final class MirrorEdgesTest {
    private static final Check CHECK = new Check();
    private static final int NONE = RubbingMirrors.NONE;

    public static void main(String[] args) {
        CHECK.sentence("MIRROR a (0 .. 2 n - 2)", MirrorEdgesTest::firstAndLastMirror);
        CHECK.sentence("PAIRS are places i and a - i, i below a - i", MirrorEdgesTest::noPairWithItself);
        CHECK.sentence("both on the row", MirrorEdgesTest::pairsOverTheEnd);
        CHECK.sentence("and KNOWN", MirrorEdgesTest::onlyKnownPairs);
        CHECK.sentence("OFF is the sum of squares of the differences", MirrorEdgesTest::greatestOff);
        CHECK.sentence("It counts if it has n / 4 PAIRS at least (cut off; and one).", MirrorEdgesTest::fewestPairs);
        CHECK.sentence("the least OFF by PAIRS (compared exactly)", MirrorEdgesTest::comparedExactly);
        CHECK.sentence("of several the most PAIRS", MirrorEdgesTest::mostPairs);
        CHECK.sentence("then the least a", MirrorEdgesTest::leastMirror);
        CHECK.sentence("a (what = 0), OFF (1), PAIRS (2)", MirrorEdgesTest::whatRange);
        CHECK.sentence("IllegalStateException: none counts (first)", MirrorEdgesTest::noneCounts);
        CHECK.end();
    }

    private static void due(String what, RubbingMirrors x, long a, long off, long pairs) {
        CHECK.due(what + ": a", a, x.mirror(0));
        CHECK.due(what + ": OFF", off, x.mirror(1));
        CHECK.due(what + ": PAIRS", pairs, x.mirror(2));
    }

    private static RubbingMirrors firstKnown(int n, int count) {
        RubbingMirrors x = new RubbingMirrors(n);
        for (int k = 0; k < count; k++) {
            x.depth(k, 9);
        }
        return x;
    }

    /** Mirrors 0 and 2 n - 2 have no pair, so that 1 and 2 n - 3 are the first and the last that can count. */
    private static void firstAndLastMirror() {
        for (int n = 4; n <= 7; n++) {
            RubbingMirrors x = new RubbingMirrors(n);
            x.depth(0, 1);
            x.depth(1, 3);
            due("the first, n = " + n, x, 1, 4, 1);
            RubbingMirrors y = new RubbingMirrors(n);
            y.depth(n - 2, 3);
            y.depth(n - 1, 1);
            due("the last, n = " + n, y, 2 * n - 3, 4, 1);
            RubbingMirrors z = new RubbingMirrors(n);
            z.depth(0, 0);
            z.depth(n - 1, 255);
            due("from end to end, n = " + n, z, n - 1, 65025, 1);
        }
    }

    private static void noPairWithItself() {
        for (int n = 4; n <= 7; n++) {
            for (int k = 0; k < n; k++) {
                int alone = k;
                int size = n;
                CHECK.refused("place " + k + " of " + n + " alone", Check.STATE, () -> {
                    RubbingMirrors x = new RubbingMirrors(size);
                    x.depth(alone, 9);
                    return x;
                }, x -> x.mirror(0));
            }
        }
        due("the place in the middle makes no pair", Rows.of(1, 77, 200, 77, 1), 4, 0, 2);
        due("nor does it make OFF", Rows.of(1, 2, NONE, 3, 1), 4, 1, 2);
    }

    /** Mirrors above n - 1 lose their pairs over the end one by one. */
    private static void pairsOverTheEnd() {
        due("mirror 9 of n = 8", Rows.of(100, 200, 1, 2, 3, 3, 2, 1), 9, 0, 3);
        due("mirror 11 of n = 8", Rows.of(100, 200, 50, 255, 2, 3, 3, 2), 11, 0, 2);
        due("mirror 5 of n = 8", Rows.of(1, 2, 3, 3, 2, 1, 100, 200), 5, 0, 3);
        due("mirror 3 of n = 8", Rows.of(2, 3, 3, 2, 255, 50, 200, 100), 3, 0, 2);
    }

    private static void onlyKnownPairs() {
        RubbingMirrors x = Rows.of(7, 7, 7, NONE, NONE, NONE, NONE, NONE);
        x.fill(0, 5);
        CHECK.due("guesses stand at 3 .. 5", 3, x.forget());
        x.fill(0, 5);
        CHECK.due("guesses make no pairs", Check.STATE.getName(), Check.thrownBy(() -> x.mirror(0)));
        x.depth(3, 7);
        due("two pairs of four known places", x, 3, 0, 2);
        x.depth(0, NONE);
        CHECK.due("one pair of three", Check.STATE.getName(), Check.thrownBy(() -> x.mirror(0)));
    }

    private static void greatestOff() {
        due("no difference", Rows.of(255, NONE, NONE, 255), 3, 0, 1);
        due("the greatest difference", Rows.of(255, NONE, NONE, 0), 3, 65025, 1);
        due("the greatest difference, the other way", Rows.of(0, NONE, NONE, 255), 3, 65025, 1);
        // These sixteen places and their images have no other sixteen pairs, so only mirror 63 counts.
        int[] left = {0, 1, 3, 4, 6, 9, 10, 13, 15, 17, 20, 21, 22, 26, 29, 31};
        RubbingMirrors x = new RubbingMirrors(64);
        for (int k : left) {
            x.depth(k, 0);
            x.depth(63 - k, 255);
        }
        due("sixteen times the greatest difference", x, 63, 16 * 65025, 16);
    }

    private static void fewestPairs() {
        for (int n = 4; n <= 64; n++) {
            int size = n;
            int fewest = n < 8 ? 1 : n / 4;
            due("just enough, n = " + n, firstKnown(n, 2 * fewest), 2 * fewest - 1, 0, fewest);
            CHECK.due("one pair too few, n = " + n, Check.STATE.getName(),
                Check.thrownBy(() -> firstKnown(size, 2 * fewest - 1).mirror(0)));
        }
        // The better mirror has too few pairs: n = 12 wants three.
        due("the best does not count", Rows.of(1, 2, 2, 1, 5, 9, NONE, NONE, NONE, NONE, NONE, NONE), 5,
            64 + 9 + 1, 3);
    }

    private static void comparedExactly() {
        due("4 / 1 is before 9 / 2, though both are 4 if cut off", Rows.of(0, 5, 5, 3), 4, 4, 1);
        due("13 / 2 is before 9 / 1, though its OFF is the greater", Rows.of(0, 8, 6, 3), 3, 13, 2);
        due("66383 / 4 is before 82979 / 5, by a twentieth",
            Rows.of(242, 0, 225, 0, 0, 255, 255, 17, 255, 6, 0, 0, 228, 0, 0, 125), 8, 66383, 4);
        due("449815 / 22 is before 592938 / 29, by one part of 638",
            Rows.of(0, 249, 254, 10, 237, 239, 252, 255, 0, 0, 250, 255, 253, 248, 254, 251, 4, 0, 250, 1, 254, 0,
                252, 5, 255, 255, 253, 255, 5, 0, 10, 0, 0, 0, 255, 0, 0, 0, 9, 0, 248, 254, 5, 249, 9, 0, 20, 17, 253,
                235, 8, 255, 4, 2, 253, 3, 239, 255, 249, 1, 0, 255, 253, 0), 83, 449815, 22);
    }

    private static void mostPairs() {
        due("0 / 1, 0 / 2 and 0 / 1", Rows.of(7, 7, 7, 7), 3, 0, 2);
        due("1 / 1 (a = 1) and 2 / 2 (a = 6)", Rows.of(101, 100, 200, NONE, 201, 101), 6, 2, 2);
        // The mirror with more pairs is the one told first here.
        due("2 / 2 (a = 4) and 1 / 1 (a = 9)", Rows.of(101, 201, NONE, 200, 100, 101), 4, 2, 2);
        for (int n = 4; n <= 64; n++) {
            // Of odd n two mirrors have the most pairs, and n - 2 is the lesser.
            due("all alike, n = " + n, firstKnown(n, n), n % 2 == 0 ? n - 1 : n - 2, 0, n / 2);
        }
    }

    private static void leastMirror() {
        due("0 / 1 of a = 1 and a = 5", Rows.of(1, 1, 200, 200), 1, 0, 1);
        due("4 / 1 of a = 1 and a = 5", Rows.of(10, 12, 200, 202), 1, 4, 1);
        due("0 / 2 of a = 3 and a = 11", Rows.of(1, 2, 2, 1, 90, 91, 91, 90), 3, 0, 2);
    }

    private static void whatRange() {
        CHECK.range("mirror", 0, 2, Check.INDEX, Rows::full, (x, what) -> x.mirror(what));
        CHECK.range("mirror of n = 64", 0, 2, Check.INDEX, () -> firstKnown(64, 32), (x, what) -> x.mirror(what));
    }

    private static void noneCounts() {
        for (int what : new int[] {Integer.MIN_VALUE, -1, 0, 1, 2, 3, Integer.MAX_VALUE}) {
            for (int n : new int[] {4, 64}) {
                CHECK.refused("mirror " + what + " of an empty row", Check.STATE, () -> new RubbingMirrors(n),
                    x -> x.mirror(what));
            }
            CHECK.refused("mirror " + what + " of too few pairs", Check.STATE, () -> firstKnown(64, 31),
                x -> x.mirror(what));
        }
    }
}
