import java.util.function.Consumer;
import java.util.function.Supplier;

/** Counts and prints what is not as due. */
final class Check {
    static final Class<? extends RuntimeException> INDEX = IndexOutOfBoundsException.class;
    static final Class<? extends RuntimeException> ARGUMENT = IllegalArgumentException.class;
    static final Class<? extends RuntimeException> STATE = IllegalStateException.class;

    private int wrong = 0;

    void due(String what, long want, long got) {
        due(what, Long.toString(want), Long.toString(got));
    }

    void due(String what, String want, String got) {
        if (!want.equals(got)) {
            wrong++;
            System.out.println(what + ": due is " + want + ", got " + got);
        }
    }

    /** The call throws exactly this class, and leaves the object as its untouched twin is. */
    void refused(String what, Class<? extends RuntimeException> want, Supplier<RubbingMirrors> maker,
            Consumer<RubbingMirrors> call) {
        RubbingMirrors called = maker.get();
        String thrown = "nothing";
        try {
            call.accept(called);
        } catch (RuntimeException e) {
            thrown = e.getClass().getName();
            due(what + " throws by its own throw statement", "RubbingMirrors", e.getStackTrace()[0].getClassName());
        }
        due(what + " throws", want.getName(), thrown);
        due(what + " changes nothing", Seen.of(maker.get()), Seen.of(called));
    }

    void end() {
        if (wrong != 0) {
            System.out.println(wrong + " wrong");
            System.exit(1);
        }
    }
}
