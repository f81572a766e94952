/** "An object is used for at most 512 calls after it has been made": every one of them answers as the first. */
public final class LongRunTest {
    private static final Check CHECK = new Check();
    private static final int LAST_CALL = 512;

    private final RubbingMirrors x;
    private int calls = 0;

    private LongRunTest(int n) {
        x = new RubbingMirrors(n);
    }

    public static void main(String[] args) {
        CHECK.sentence("the dearest row, catalogue, key and tale", () -> new LongRunTest(64).dearest());
        CHECK.sentence("refused calls are calls too", () -> new LongRunTest(4).refused());
        CHECK.sentence("filled and forgotten again and again", () -> new LongRunTest(64).filled());
        CHECK.sentence("a new object has nothing of the ones before", LongRunTest::manyObjects);
        CHECK.end();
    }

    private RubbingMirrors counted() {
        calls++;
        return x;
    }

    private boolean hasCalls(int more) {
        return calls + more <= LAST_CALL;
    }

    private void dearest() {
        for (int k = 0; k < 64; k++) {
            counted().depth(k, k % 2 == 0 ? 0 : 255);
        }
        for (int s = 0; s < 8; s++) {
            CHECK.due("shape", s, counted().shape(16));
            for (int k = 0; k < 16; k++) {
                counted().carve(s, k, k % 2 == 0 ? 255 - s : s);
            }
        }
        CHECK.due("kind", 0, counted().kind(1000));
        for (int q = 0; q < 15; q++) {
            CHECK.due("question", q + 1, counted().question(q, q, q));
        }
        for (int i = 0; i < 8; i++) {
            CHECK.due("rule", i + 1, counted().rule(0, 63, 0, 255, i - 10000, 10000 - i));
        }
        while (hasCalls(8)) {
            allAnswers();
        }
        while (hasCalls(1)) {
            CHECK.due("the last calls", 1000, counted().ask(0, 65535));
        }
        CHECK.due("calls", LAST_CALL, calls);
    }

    private void allAnswers() {
        // Even mirrors have no OFF; 62 is the least of those with 31 pairs.
        CHECK.due("mirror", 62, counted().mirror(0));
        CHECK.due("PAIRS", 31, counted().mirror(2));
        CHECK.due("repeat", 2, counted().repeat(1, 63));
        CHECK.due("match", 0, counted().match(0));
        CHECK.due("MISS", 0, counted().match(2));
        CHECK.due("ask", 1000, counted().ask(65535, 65535));
        CHECK.due("begin", -9993, counted().age(0));
        CHECK.due("end", 9993, counted().age(1));
    }

    private void refused() {
        while (hasCalls(9)) {
            dueRefused(Check.INDEX, () -> counted().depth(4, 0));
            dueRefused(Check.STATE, () -> counted().mirror(0));
            dueRefused(Check.ARGUMENT, () -> counted().shape(17));
            dueRefused(Check.INDEX, () -> counted().carve(0, 0, 0));
            dueRefused(Check.STATE, () -> counted().match(0));
            dueRefused(Check.ARGUMENT, () -> counted().kind(1001));
            dueRefused(Check.INDEX, () -> counted().question(0, 0, 0));
            dueRefused(Check.STATE, () -> counted().ask(0, 0));
            dueRefused(Check.ARGUMENT, () -> counted().rule(0, 0, 0, 0, 1, 0));
        }
        CHECK.due("the next shape", 0, counted().shape(2));
        CHECK.due("the next node", 0, counted().kind(9));
        CHECK.due("the next rule", 1, counted().rule(0, 0, 0, 0, 0, 0));
        CHECK.due("the next answer", 9, counted().ask(0, 0));
        CHECK.due("no more than may be", 1, hasCalls(0) ? 1 : 0);
    }

    private void dueRefused(Class<? extends RuntimeException> thrown, Runnable call) {
        CHECK.due("call " + calls, thrown.getName(), Check.thrownBy(call));
    }

    private void filled() {
        counted().depth(31, 200);
        while (hasCalls(2)) {
            CHECK.due("filled", 16, counted().fill(1, 62));
            CHECK.due("forgotten", 16, counted().forget());
        }
        CHECK.due("the last call", 200, counted().place(31, 0));
        CHECK.due("calls", LAST_CALL, calls);
    }

    private static void manyObjects() {
        String first = Seen.of(() -> new RubbingMirrors(64));
        for (int i = 0; i < 20; i++) {
            new LongRunTest(64).dearest();
            CHECK.due("a new object", first, Seen.of(() -> new RubbingMirrors(64)));
        }
    }
}
