import java.util.Arrays;
import java.util.function.Consumer;
import java.util.function.Supplier;

/** Counts and prints what is not as due. */
final class Check {
    static final Class<? extends RuntimeException> INDEX = IndexOutOfBoundsException.class;
    static final Class<? extends RuntimeException> ARGUMENT = IllegalArgumentException.class;
    static final Class<? extends RuntimeException> STATE = IllegalStateException.class;

    /** A call with one of its numbers left open. */
    interface NumberCall {
        void with(RubbingMirrors x, int number);
    }

    private int wrong = 0;
    private String sentence = "";

    /** A test of one sentence of the document: what goes wrong in it is printed with its words. */
    void sentence(String words, Runnable test) {
        sentence = "\"" + words + "\": ";
        try {
            test.run();
        } catch (RuntimeException e) {
            tellWrong("the test was ended by " + e + " at " + e.getStackTrace()[0]);
        }
        sentence = "";
    }

    void due(String what, long want, long got) {
        due(what, Long.toString(want), Long.toString(got));
    }

    void due(String what, String want, String got) {
        if (!want.equals(got)) {
            tellWrong(what + ": due is " + want + ", got " + got);
        }
    }

    private void tellWrong(String what) {
        wrong++;
        System.out.println(sentence + what);
    }

    /** The full name of what a call throws, or "nothing". */
    static String thrownBy(Runnable call) {
        try {
            call.run();
            return "nothing";
        } catch (RuntimeException e) {
            return e.getClass().getName();
        }
    }

    /** The call throws exactly this class by a throw statement, and leaves the object as its untouched twin is. */
    void refused(String what, Class<? extends RuntimeException> want, Supplier<RubbingMirrors> maker,
            Consumer<RubbingMirrors> call) {
        RubbingMirrors x = maker.get();
        try {
            call.accept(x);
            due(what + " throws", want.getName(), "nothing");
        } catch (RuntimeException e) {
            due(what + " throws", want.getName(), e.getClass().getName());
            due(what + " throws by its own statement", "RubbingMirrors", e.getStackTrace()[0].getClassName());
        }
        dueSeen(what + " changes nothing", Seen.of(maker), Seen.of(() -> called(maker, call)));
    }

    /** The first word that differs is told: the texts are long. */
    private void dueSeen(String what, String want, String got) {
        String[] wanted = want.split(" ");
        String[] seen = got.split(" ");
        int at = Arrays.mismatch(wanted, seen);
        if (at >= 0) {
            due(what, at < wanted.length ? wanted[at] : "no more", at < seen.length ? seen[at] : "no more");
        }
    }

    private static RubbingMirrors called(Supplier<RubbingMirrors> maker, Consumer<RubbingMirrors> call) {
        RubbingMirrors x = maker.get();
        thrownBy(() -> call.accept(x));
        return x;
    }

    void taken(String what, Supplier<RubbingMirrors> maker, Consumer<RubbingMirrors> call) {
        RubbingMirrors x = maker.get();
        due(what + " throws", "nothing", thrownBy(() -> call.accept(x)));
    }

    /** The least and the greatest number are taken; the ones just beyond and the ones farthest off are refused. */
    void range(String what, int least, int greatest, Class<? extends RuntimeException> refusal,
            Supplier<RubbingMirrors> maker, NumberCall call) {
        for (int number : new int[] {least, greatest}) {
            taken(what + " " + number, maker, x -> call.with(x, number));
        }
        for (int number : new int[] {Integer.MIN_VALUE, least - 1, greatest + 1, Integer.MAX_VALUE}) {
            refused(what + " " + number, refusal, maker, x -> call.with(x, number));
        }
    }

    void end() {
        if (wrong != 0) {
            System.out.println(wrong + " wrong");
            System.exit(1);
        }
    }
}
