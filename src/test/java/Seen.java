import java.util.Random;
import java.util.function.LongSupplier;
import java.util.function.Supplier;

/**
 * All that can be seen of an object, as a text. Much can be seen only by changing the object, so each
 * part looks at an object of its own, and stays within its 512 calls.
 */
final class Seen {
    private final StringBuilder text = new StringBuilder();

    static String of(Supplier<RubbingMirrors> maker) {
        Seen seen = new Seen();
        seen.row(maker.get());
        seen.answers(maker.get());
        seen.room(maker.get());
        seen.shapes(maker.get());
        seen.nodes(maker.get());
        for (int seed = 0; seed < 3; seed++) {
            seen.otherRows(maker.get(), new Random(seed));
        }
        return seen.text.toString();
    }

    /** How many places there are: the first that place refuses. */
    static int places(RubbingMirrors x) {
        for (int k = 0; k < 100; k++) {
            try {
                x.place(k, 0);
            } catch (IndexOutOfBoundsException e) {
                return k;
            }
        }
        return 100;
    }

    /** The counts of shapes, nodes, rules and guesses, by what the next calls answer. */
    static String counts(RubbingMirrors x) {
        Seen seen = new Seen();
        seen.room(x);
        return seen.text.toString();
    }

    private void tell(String name, LongSupplier call) {
        String answer;
        try {
            answer = Long.toString(call.getAsLong());
        } catch (RuntimeException e) {
            answer = e.getClass().getSimpleName();
        }
        text.append(name).append('=').append(answer).append(' ');
    }

    private void row(RubbingMirrors x) {
        int n = places(x);
        for (int k = 0; k < n; k++) {
            int at = k;
            tell("depth" + k, () -> x.place(at, 0));
            tell("guess" + k, () -> x.place(at, 1));
            tell("sum" + k, () -> x.sum(at));
        }
    }

    private void answers(RubbingMirrors x) {
        for (int what = 0; what < 4; what++) {
            int asked = what;
            tell("mirror" + what, () -> x.mirror(asked));
            tell("match" + what, () -> x.match(asked));
            tell("age" + what, () -> x.age(asked));
        }
        Random random = new Random(7);
        for (int i = 0; i < 20; i++) {
            int bits = random.nextInt(65536);
            int known = random.nextInt(65536) | random.nextInt(65536);
            tell("ask" + i, () -> x.ask(bits, known));
        }
    }

    private void room(RubbingMirrors x) {
        tell("shape", () -> x.shape(2));
        tell("kind", () -> x.kind(0));
        tell("rule", () -> x.rule(0, 0, 0, 255, 0, 0));
        tell("forget", () -> x.forget());
    }

    private void shapes(RubbingMirrors x) {
        for (int shape = 0; shape < 9; shape++) {
            int number = shape;
            int length = 0;
            while (length < 17 && takesCarving(x, number, length)) {
                length++;
            }
            text.append("length").append(shape).append('=').append(length).append(' ');
        }
    }

    private static boolean takesCarving(RubbingMirrors x, int shape, int k) {
        return Check.thrownBy(() -> x.carve(shape, k, 0)).equals("nothing");
    }

    /** A question whose two nodes are one leads to that node, so that each can be seen. */
    private void nodes(RubbingMirrors x) {
        for (int node = 0; node < 16; node++) {
            int at = node;
            tell("question" + node, () -> x.question(0, at, at));
            tell("askNo" + node, () -> x.ask(0, 65535));
            tell("askYes" + node, () -> x.ask(65535, 65535));
            tell("askOne" + node, () -> x.ask(0, 1));
        }
    }

    /** Shapes and rules show themselves on other rows. */
    private void otherRows(RubbingMirrors x, Random random) {
        int n = places(x);
        for (int turn = 0; turn < 160 / n; turn++) {
            for (int k = 0; k < n; k++) {
                x.depth(k, random.nextInt(5) == 0 ? RubbingMirrors.NONE : random.nextInt(256));
            }
            tell("miss", () -> x.match(2));
            tell("where", () -> x.match(1));
            tell("begin", () -> x.age(0));
            tell("end", () -> x.age(1));
        }
    }
}
