/** The boundary cases of the key and of promises 12 to 14, a test for each sentence that names one. */
public final class KeyEdgesTest {
    private static final Check CHECK = new Check();
    private static final int ALL = 65535;

    public static void main(String[] args) {
        CHECK.sentence("THE KEY has NODES 0 .. 15 (as they are told)", KeyEdgesTest::numbers);
        CHECK.sentence("kind: IllegalArgumentException: kind is not 0 .. 1000", KeyEdgesTest::kindRange);
        CHECK.sentence("kind: IllegalStateException: there are 16.", KeyEdgesTest::noRoomForKind);
        CHECK.sentence("a question with two nodes, both told before", KeyEdgesTest::toldBefore);
        CHECK.sentence("question: IndexOutOfBoundsException: no such node", KeyEdgesTest::nodeRange);
        CHECK.sentence("question: IllegalArgumentException: q is not 0 .. 15", KeyEdgesTest::questionRange);
        CHECK.sentence("question: IllegalStateException: there are 16.", KeyEdgesTest::noRoomForQuestion);
        CHECK.sentence("question: of several exceptions the one named first", KeyEdgesTest::questionOrder);
        CHECK.sentence("bit q for question q (0 .. 15), and known bits likewise", KeyEdgesTest::everyBit);
        CHECK.sentence("ASKED from the latest node on", KeyEdgesTest::latestNode);
        CHECK.sentence("at a question whose bit is not known it ends and tells it", KeyEdgesTest::endsAtQuestion);
        CHECK.sentence("at a KIND it ends", KeyEdgesTest::endsAtKind);
        CHECK.sentence("the KIND; or -2 less the question that must be answered", KeyEdgesTest::leastAndGreatest);
        CHECK.sentence("ask: IllegalArgumentException: bits or known is not 0 .. 65535", KeyEdgesTest::bitsRange);
        CHECK.sentence("ask: IllegalStateException: there are no NODES.", KeyEdgesTest::noNodes);
        CHECK.end();
    }

    private static RubbingMirrors kinds(int count) {
        RubbingMirrors x = new RubbingMirrors(4);
        for (int k = 0; k < count; k++) {
            x.kind(100 + k);
        }
        return x;
    }

    /** Kind 100, then questions 0, 1, 2 ..: no leads to the node before, yes to the kind. */
    private static RubbingMirrors chain(int questions) {
        RubbingMirrors x = kinds(1);
        for (int q = 0; q < questions; q++) {
            x.question(q, q, 0);
        }
        return x;
    }

    private static void numbers() {
        RubbingMirrors x = new RubbingMirrors(4);
        for (int node = 0; node < 16; node++) {
            CHECK.due("kinds alone", node, x.kind(node));
            CHECK.due("a refused kind", Check.ARGUMENT.getName(), Check.thrownBy(() -> x.kind(1001)));
        }
        RubbingMirrors y = kinds(1);
        for (int node = 1; node < 16; node++) {
            CHECK.due("questions", node, y.question(15, node - 1, 0));
            CHECK.due("a refused question", Check.ARGUMENT.getName(), Check.thrownBy(() -> y.question(16, 0, 0)));
        }
        RubbingMirrors z = kinds(1);
        for (int node = 1; node < 16; node++) {
            CHECK.due("both by turns", node, node % 2 == 1 ? z.question(0, 0, 0) : z.kind(0));
        }
    }

    private static void kindRange() {
        for (int count : new int[] {0, 1, 15}) {
            CHECK.range("kind behind " + count, 0, 1000, Check.ARGUMENT, () -> kinds(count), (x, kind) -> x.kind(kind));
        }
        CHECK.range("kind behind questions", 0, 1000, Check.ARGUMENT, () -> chain(14), (x, kind) -> x.kind(kind));
        for (int kind = 0; kind <= 1000; kind++) {
            RubbingMirrors x = new RubbingMirrors(4);
            x.kind(kind);
            CHECK.due("kind " + kind, kind, x.ask(0, 0));
        }
    }

    private static void noRoomForKind() {
        for (int kind : new int[] {0, 1, 1000}) {
            CHECK.refused("kind " + kind + " behind 16 kinds", Check.STATE, () -> kinds(16), x -> x.kind(kind));
            CHECK.refused("kind " + kind + " behind 15 questions", Check.STATE, () -> chain(15), x -> x.kind(kind));
        }
        for (int kind : new int[] {Integer.MIN_VALUE, -1, 1001, Integer.MAX_VALUE}) {
            CHECK.refused("kind " + kind + " behind 16 kinds", Check.ARGUMENT, () -> kinds(16), x -> x.kind(kind));
        }
    }

    private static void toldBefore() {
        for (int count = 1; count < 16; count++) {
            int itself = count;
            CHECK.refused("no is the question itself, " + count, Check.INDEX, () -> kinds(itself),
                x -> x.question(0, itself, 0));
            CHECK.refused("yes is the question itself, " + count, Check.INDEX, () -> kinds(itself),
                x -> x.question(0, 0, itself));
            RubbingMirrors x = kinds(count);
            CHECK.due("the node just before, " + count, count, x.question(0, count - 1, count - 1));
            CHECK.due("it leads there, " + count, 99 + count, x.ask(0, 1));
        }
        CHECK.refused("an empty key", Check.INDEX, () -> kinds(0), x -> x.question(0, 0, 0));
    }

    private static void nodeRange() {
        for (int count : new int[] {1, 2, 15}) {
            CHECK.range("of " + count + " nodes, no is", 0, count - 1, Check.INDEX, () -> kinds(count),
                (x, node) -> x.question(0, node, 0));
            CHECK.range("of " + count + " nodes, yes is", 0, count - 1, Check.INDEX, () -> kinds(count),
                (x, node) -> x.question(0, 0, node));
        }
        for (int node : new int[] {Integer.MIN_VALUE, -1, 0, 1, 15, 16, Integer.MAX_VALUE}) {
            CHECK.refused("an empty key, nodes are " + node, Check.INDEX, () -> kinds(0),
                x -> x.question(0, node, node));
        }
    }

    private static void questionRange() {
        for (int count : new int[] {1, 2, 15}) {
            CHECK.range("behind " + count + " nodes, q is", 0, 15, Check.ARGUMENT, () -> kinds(count),
                (x, q) -> x.question(q, 0, count - 1));
        }
    }

    private static void noRoomForQuestion() {
        for (int q : new int[] {0, 15}) {
            for (int node : new int[] {0, 15}) {
                CHECK.refused("question " + q + " of node " + node + " behind 16 kinds", Check.STATE,
                    () -> kinds(16), x -> x.question(q, node, node));
                CHECK.refused("question " + q + " of node " + node + " behind 15 questions", Check.STATE,
                    () -> chain(15), x -> x.question(q, node, node));
            }
        }
    }

    private static void questionOrder() {
        for (int node : new int[] {-1, 16}) {
            CHECK.refused("node " + node + ", q is wrong", Check.INDEX, () -> kinds(3),
                x -> x.question(16, node, 0));
            CHECK.refused("node " + node + ", q is below", Check.INDEX, () -> kinds(3),
                x -> x.question(-1, 0, node));
            CHECK.refused("node " + node + ", no room", Check.INDEX, () -> kinds(16), x -> x.question(0, node, 0));
            CHECK.refused("node " + node + " for yes, no room", Check.INDEX, () -> kinds(16),
                x -> x.question(0, 0, node));
            CHECK.refused("node " + node + ", q is wrong, no room", Check.INDEX, () -> kinds(16),
                x -> x.question(16, node, 0));
        }
        for (int q : new int[] {Integer.MIN_VALUE, -1, 16, Integer.MAX_VALUE}) {
            CHECK.refused("q is " + q + ", no room", Check.ARGUMENT, () -> kinds(16), x -> x.question(q, 0, 15));
            CHECK.refused("q is " + q + ", an empty key", Check.INDEX, () -> kinds(0), x -> x.question(q, 0, 0));
        }
    }

    private static void everyBit() {
        for (int q = 0; q < 16; q++) {
            int bit = 1 << q;
            RubbingMirrors x = kinds(2);
            x.question(q, 0, 1);
            CHECK.due("nothing is known, " + q, -2 - q, x.ask(0, 0));
            CHECK.due("all but it is known, " + q, -2 - q, x.ask(ALL, ALL - bit));
            CHECK.due("it alone is known: no, " + q, 100, x.ask(0, bit));
            CHECK.due("it alone is known: yes, " + q, 101, x.ask(bit, bit));
            CHECK.due("all is known, all others are yes, " + q, 100, x.ask(ALL - bit, ALL));
            CHECK.due("all is known, all others are no, " + q, 101, x.ask(bit, ALL));
        }
    }

    private static void latestNode() {
        RubbingMirrors x = new RubbingMirrors(4);
        for (int node = 0; node < 15; node++) {
            x.kind(500 + node);
            CHECK.due("of " + (node + 1), 500 + node, x.ask(ALL, ALL));
        }
        x.question(3, 0, 14);
        CHECK.due("the last is a question: no", 500, x.ask(0, ALL));
        CHECK.due("the last is a question: yes", 514, x.ask(ALL, ALL));
        CHECK.due("a refused kind is no node", Check.STATE.getName(), Check.thrownBy(() -> x.kind(7)));
        CHECK.due("so the question is the latest still", -5, x.ask(0, 0));
    }

    private static void endsAtQuestion() {
        for (int open = 0; open < 15; open++) {
            CHECK.due("all known but " + open, -2 - open, chain(15).ask(0, ALL - (1 << open)));
            // Below the question that is answered by yes, what is not known does not matter.
            CHECK.due("yes at once, " + open + " is not known", open == 14 ? -16 : 100,
                chain(15).ask(1 << 14, ALL - (1 << open)));
        }
        RubbingMirrors x = kinds(2);
        x.question(4, 0, 1);
        x.question(4, 2, 2);
        CHECK.due("one question twice, not known", -6, x.ask(0, 0));
        CHECK.due("one question twice, known", 101, x.ask(16, 16));
    }

    private static void endsAtKind() {
        CHECK.due("one kind, nothing known", 100, kinds(1).ask(0, 0));
        CHECK.due("one kind, all known", 100, kinds(1).ask(ALL, ALL));
        for (int questions = 1; questions <= 15; questions++) {
            CHECK.due("through " + questions + " questions", 100, chain(questions).ask(0, ALL));
            CHECK.due("off the first of " + questions, 100, chain(questions).ask(ALL, ALL));
        }
    }

    private static void leastAndGreatest() {
        RubbingMirrors x = new RubbingMirrors(4);
        x.kind(0);
        x.kind(1000);
        x.question(0, 0, 1);
        CHECK.due("question 0", -2, x.ask(0, 0));
        CHECK.due("kind 0", 0, x.ask(0, 1));
        CHECK.due("kind 1000", 1000, x.ask(1, 1));
        x.question(15, 0, 1);
        CHECK.due("question 15", -17, x.ask(0, 0));
        CHECK.due("kind 0 by question 15", 0, x.ask(0, 32768));
        CHECK.due("kind 1000 by question 15", 1000, x.ask(32768, 32768));
    }

    private static void bitsRange() {
        for (int other : new int[] {0, ALL}) {
            CHECK.range("known " + other + ", bits", 0, ALL, Check.ARGUMENT, Rows::full,
                (x, bits) -> x.ask(bits, other));
            CHECK.range("bits " + other + ", known", 0, ALL, Check.ARGUMENT, Rows::full,
                (x, known) -> x.ask(other, known));
        }
        CHECK.refused("both are wrong", Check.ARGUMENT, Rows::full, x -> x.ask(-1, 65536));
    }

    private static void noNodes() {
        for (int bits : new int[] {0, ALL}) {
            for (int known : new int[] {0, ALL}) {
                CHECK.refused("ask " + bits + " " + known, Check.STATE, () -> kinds(0), x -> x.ask(bits, known));
            }
        }
        for (int wrong : new int[] {Integer.MIN_VALUE, -1, 65536, Integer.MAX_VALUE}) {
            CHECK.refused("bits " + wrong, Check.ARGUMENT, () -> kinds(0), x -> x.ask(wrong, 0));
            CHECK.refused("known " + wrong, Check.ARGUMENT, () -> kinds(0), x -> x.ask(0, wrong));
        }
    }
}
