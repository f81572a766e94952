/** Promises 7 and 8: fill, forget. */
public final class FillTest {
    private static final Check CHECK = new Check();

    public static void main(String[] args) {
        nearestFirst();
        eightSteps();
        guessesFillNothing();
        byMirror();
        stepBeforeMirror();
        nothingToFill();
        forgetting();
        wrongInputs();
        CHECK.end();
    }

    private static void nearestFirst() {
        RubbingMirrors x = Rows.of(11, -1, 33, -1, 55);
        CHECK.due("two filled", 2, x.fill(1, -1));
        CHECK.due("k - s is first", 11, x.place(1, 0));
        CHECK.due("k - s is first", 33, x.place(3, 0));
        CHECK.due("a guess", 1, x.place(3, 1));
        CHECK.due("no guess", 0, x.place(2, 1));
        RubbingMirrors y = Rows.of(11, -1, -1, 44, 55);
        CHECK.due("two filled", 2, y.fill(1, -1));
        CHECK.due("k + s is before k - 2 s", 44, y.place(2, 0));
        RubbingMirrors z = Rows.of(11, -1, -1, -1, 55);
        z.fill(1, -1);
        CHECK.due("k - 2 s is before k + 2 s", 11, z.place(2, 0));
        CHECK.due("k + s", 55, z.place(3, 0));
    }

    private static void eightSteps() {
        RubbingMirrors x = new RubbingMirrors(64);
        x.depth(20, 5);
        CHECK.due("eight on either side", 16, x.fill(1, -1));
        CHECK.due("k + 8 s", 5, x.place(12, 0));
        CHECK.due("k + 9 s", -1, x.place(11, 0));
        CHECK.due("k - 8 s", 5, x.place(28, 0));
        CHECK.due("k - 9 s", -1, x.place(29, 0));
        RubbingMirrors y = new RubbingMirrors(64);
        y.depth(1, 6);
        CHECK.due("wide steps", 8, y.fill(7, -1));
        CHECK.due("8 of 7", 6, y.place(57, 0));
        RubbingMirrors z = new RubbingMirrors(64);
        z.depth(0, 6);
        CHECK.due("the widest step", 1, z.fill(63, -1));
        CHECK.due("of the last place", 6, z.place(63, 0));
    }

    private static void guessesFillNothing() {
        RubbingMirrors x = Rows.of(-1, 20, -1, -1, -1, -1);
        CHECK.due("one by the mirror", 1, x.fill(0, 3));
        CHECK.due("place 2 is a guess", 1, x.place(2, 1));
        CHECK.due("from 1 alone, not from the guess", 1, x.fill(4, -1));
        CHECK.due("place 5", 20, x.place(5, 0));
        CHECK.due("the guess gives nothing by a mirror", 0, x.fill(0, 6));
        CHECK.due("place 4", -1, x.place(4, 0));
        CHECK.due("a guess is not filled again", 0, x.fill(0, 3));
        CHECK.due("two guesses", 2, x.forget());
    }

    private static void byMirror() {
        RubbingMirrors x = Rows.of(1, 2, -1, -1, 5, -1);
        CHECK.due("mirror 3", 2, x.fill(0, 3));
        CHECK.due("3 - 2 = 1", 2, x.place(2, 0));
        CHECK.due("3 - 3 = 0", 1, x.place(3, 0));
        CHECK.due("3 - 5 is off the row", -1, x.place(5, 0));
        RubbingMirrors y = Rows.of(-1, -1, -1, 9);
        CHECK.due("its own image", 0, y.fill(0, 0));
        CHECK.due("the last mirror", 0, y.fill(0, 6));
        CHECK.due("mirror 3", 1, y.fill(0, 3));
        CHECK.due("place 0", 9, y.place(0, 0));
        CHECK.due("mirror 5", 1, y.fill(0, 5));
        CHECK.due("place 2", 9, y.place(2, 0));
        CHECK.due("neither step nor mirror", 0, y.fill(0, RubbingMirrors.NONE));
    }

    private static void stepBeforeMirror() {
        RubbingMirrors x = Rows.of(10, -1, 30, -1, -1, 60);
        CHECK.due("all filled", 3, x.fill(3, 6));
        CHECK.due("1: 4 is lost, so 6 - 1", 60, x.place(1, 0));
        CHECK.due("3: 0 by the step", 10, x.place(3, 0));
        CHECK.due("4: 1 is but a guess, so 6 - 4", 30, x.place(4, 0));
    }

    private static void nothingToFill() {
        CHECK.due("all known", 0, Rows.of(1, 2, 3, 4).fill(1, 3));
        CHECK.due("all lost", 0, new RubbingMirrors(8).fill(1, 7));
    }

    private static void forgetting() {
        RubbingMirrors x = Rows.of(1, -1, 3, -1);
        CHECK.due("nothing to forget", 0, x.forget());
        x.fill(1, -1);
        CHECK.due("two guesses", 2, x.forget());
        CHECK.due("lost again", -1, x.place(1, 0));
        CHECK.due("no guess", 0, x.place(1, 1));
        CHECK.due("known stays", 3, x.place(2, 0));
        CHECK.due("forgotten already", 0, x.forget());
        CHECK.due("filled anew", 2, x.fill(2, 3));
        RubbingMirrors y = Rows.of(-1, 2, 3, -1);
        y.fill(1, -1);
        CHECK.due("guesses at both ends", 2, y.forget());
    }

    private static void wrongInputs() {
        int[][] wrong = {{-1, 0}, {12, 0}, {0, -2}, {0, 23}, {Integer.MIN_VALUE, 0}, {Integer.MAX_VALUE, 0},
            {0, Integer.MIN_VALUE}, {0, Integer.MAX_VALUE}, {12, 23}};
        for (int[] given : wrong) {
            CHECK.refused("fill " + given[0] + " " + given[1], Check.ARGUMENT, Rows::full,
                x -> x.fill(given[0], given[1]));
        }
        CHECK.due("the greatest step and mirror", 0, new RubbingMirrors(12).fill(11, 22));
    }
}
