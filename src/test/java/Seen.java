import java.util.function.LongSupplier;

/** All that can be seen of an object, as a text; uses the object up, as it also changes it to see its counts. */
final class Seen {
    private final StringBuilder text = new StringBuilder();

    static String of(RubbingMirrors x) {
        Seen seen = new Seen();
        seen.row(x);
        seen.catalogue(x);
        seen.answers(x);
        seen.changes(x);
        return seen.text.toString();
    }

    /** How many places there are: the first that place refuses. */
    static int places(RubbingMirrors x) {
        for (int k = 0; k < 100; k++) {
            try {
                x.place(k, 0);
            } catch (IndexOutOfBoundsException e) {
                return k;
            }
        }
        return 100;
    }

    private void tell(String name, LongSupplier call) {
        String answer;
        try {
            answer = Long.toString(call.getAsLong());
        } catch (RuntimeException e) {
            answer = e.getClass().getSimpleName();
        }
        text.append(name).append('=').append(answer).append(' ');
    }

    private void row(RubbingMirrors x) {
        int n = places(x);
        for (int k = 0; k < n; k++) {
            int at = k;
            tell("depth" + k, () -> x.place(at, 0));
            tell("guess" + k, () -> x.place(at, 1));
        }
        for (int what = 0; what < 3; what++) {
            int asked = what;
            tell("mirror" + what, () -> x.mirror(asked));
        }
    }

    private void catalogue(RubbingMirrors x) {
        for (int what = 0; what < 4; what++) {
            int asked = what;
            tell("match" + what, () -> x.match(asked));
        }
    }

    private void answers(RubbingMirrors x) {
        tell("ask", () -> x.ask(0, 0));
        tell("askNo", () -> x.ask(0, 65535));
        tell("askYes", () -> x.ask(65535, 65535));
        tell("begin", () -> x.age(0));
        tell("end", () -> x.age(1));
    }

    private void changes(RubbingMirrors x) {
        tell("shape", () -> x.shape(2));
        tell("kind", () -> x.kind(0));
        tell("rule", () -> x.rule(0, 0, 0, 255, 0, 0));
        tell("forget", () -> x.forget());
    }
}
