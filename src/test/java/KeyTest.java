/** Promises 12 to 14: kind, question, ask. */
public final class KeyTest {
    private static final Check CHECK = new Check();

    public static void main(String[] args) {
        kinds();
        questions();
        everyBit();
        longKey();
        wrongKinds();
        wrongQuestions();
        wrongAsking();
        CHECK.end();
    }

    private static RubbingMirrors withKinds(int count) {
        RubbingMirrors x = new RubbingMirrors(4);
        for (int k = 0; k < count; k++) {
            x.kind(100 + k);
        }
        return x;
    }

    private static void kinds() {
        RubbingMirrors x = new RubbingMirrors(4);
        CHECK.due("first number", 0, x.kind(0));
        CHECK.due("a kind is told whatever is known", 0, x.ask(65535, 0));
        CHECK.due("second number", 1, x.kind(1000));
        CHECK.due("from the latest node on", 1000, x.ask(0, 0));
        for (int k = 2; k < 16; k++) {
            CHECK.due("number", k, x.kind(1000));
        }
    }

    private static void questions() {
        RubbingMirrors x = withKinds(3);
        CHECK.due("number", 3, x.question(4, 0, 1));
        CHECK.due("number", 4, x.question(7, 2, 3));
        CHECK.due("the first is not known", -2 - 7, x.ask(0, 0));
        CHECK.due("its bit is set, but not known", -2 - 7, x.ask(128, 65535 - 128));
        CHECK.due("no", 102, x.ask(0, 128));
        CHECK.due("yes, the second is not known", -2 - 4, x.ask(128, 128));
        CHECK.due("yes, no", 100, x.ask(128, 128 + 16));
        CHECK.due("yes, yes", 101, x.ask(128 + 16, 128 + 16));
        CHECK.due("other bits are nothing to it", 102, x.ask(65535 - 128, 65535));
        CHECK.due("a question whose nodes are one", 5, x.question(0, 0, 0));
        CHECK.due("no", 100, x.ask(0, 1));
        CHECK.due("yes", 100, x.ask(1, 1));
        CHECK.due("a kind behind them", 6, x.kind(8));
        CHECK.due("the latest", 8, x.ask(0, 0));
    }

    private static void everyBit() {
        for (int q = 0; q < 16; q++) {
            RubbingMirrors x = withKinds(2);
            CHECK.due("number", 2, x.question(q, 0, 1));
            CHECK.due("not known " + q, -2 - q, x.ask(0, 65535 - (1 << q)));
            CHECK.due("no " + q, 100, x.ask(65535 - (1 << q), 1 << q));
            CHECK.due("yes " + q, 101, x.ask(1 << q, 65535));
        }
    }

    private static void longKey() {
        RubbingMirrors x = withKinds(1);
        for (int q = 0; q < 15; q++) {
            CHECK.due("number", q + 1, x.question(q, q, 0));
        }
        CHECK.due("all the way", 100, x.ask(0, 65535));
        CHECK.due("up to the last question", -2, x.ask(0, 65534));
        CHECK.due("off at once", 100, x.ask(65535, 65535));
    }

    private static void wrongKinds() {
        for (int kind : new int[] {Integer.MIN_VALUE, -1, 1001, Integer.MAX_VALUE}) {
            CHECK.refused("kind " + kind, Check.ARGUMENT, Rows::full, x -> x.kind(kind));
            CHECK.refused("kind " + kind + ", no room", Check.ARGUMENT, () -> withKinds(16), x -> x.kind(kind));
        }
        CHECK.refused("kind, no room", Check.STATE, () -> withKinds(16), x -> x.kind(0));
    }

    private static void wrongQuestions() {
        for (int node : new int[] {Integer.MIN_VALUE, -1, 3, 15, 16, Integer.MAX_VALUE}) {
            CHECK.refused("no is " + node, Check.INDEX, () -> withKinds(3), x -> x.question(0, node, 0));
            CHECK.refused("yes is " + node, Check.INDEX, () -> withKinds(3), x -> x.question(0, 0, node));
            CHECK.refused("q is wrong too", Check.INDEX, () -> withKinds(3), x -> x.question(16, 0, node));
        }
        CHECK.refused("no nodes", Check.INDEX, () -> withKinds(0), x -> x.question(0, 0, 0));
        CHECK.refused("no such node, and no room", Check.INDEX, () -> withKinds(16), x -> x.question(0, 16, 0));
        for (int q : new int[] {Integer.MIN_VALUE, -1, 16, Integer.MAX_VALUE}) {
            CHECK.refused("q is " + q, Check.ARGUMENT, () -> withKinds(3), x -> x.question(q, 0, 0));
            CHECK.refused("q is " + q + ", no room", Check.ARGUMENT, () -> withKinds(16), x -> x.question(q, 0, 0));
        }
        CHECK.refused("question, no room", Check.STATE, () -> withKinds(16), x -> x.question(15, 15, 15));
    }

    private static void wrongAsking() {
        for (int bits : new int[] {Integer.MIN_VALUE, -1, 65536, Integer.MAX_VALUE}) {
            CHECK.refused("bits " + bits, Check.ARGUMENT, Rows::full, x -> x.ask(bits, 0));
            CHECK.refused("known " + bits, Check.ARGUMENT, Rows::full, x -> x.ask(0, bits));
            CHECK.refused("bits " + bits + ", no nodes", Check.ARGUMENT, () -> withKinds(0), x -> x.ask(bits, 0));
        }
        CHECK.refused("no nodes", Check.STATE, () -> withKinds(0), x -> x.ask(0, 0));
    }
}
