/** Promises 15 and 16: rule, age. */
public final class AgeTest {
    private static final Check CHECK = new Check();

    public static void main(String[] args) {
        counts();
        holding();
        commonPart();
        lostAndGuesses();
        wrongPlaces();
        wrongNumbers();
        noRoom();
        wrongAges();
        CHECK.end();
    }

    private static void due(String what, RubbingMirrors x, int begin, int end) {
        CHECK.due(what + ": begin", begin, x.age(0));
        CHECK.due(what + ": end", end, x.age(1));
    }

    private static RubbingMirrors withRules(int count) {
        RubbingMirrors x = Rows.of(10, 20, 30, 40);
        for (int i = 0; i < count; i++) {
            x.rule(0, 3, 0, 255, i, 100 - i);
        }
        return x;
    }

    private static void counts() {
        RubbingMirrors x = new RubbingMirrors(4);
        for (int i = 1; i <= 8; i++) {
            CHECK.due("count", i, x.rule(0, 3, 0, 255, -10000, 10000));
        }
        due("all eight tell", withRules(8), 7, 93);
    }

    private static void holding() {
        RubbingMirrors x = Rows.of(10, 20, 30, 40);
        x.rule(0, 2, 10, 30, 5, 9);
        due("within, both ends in", x, 5, 9);
        x.rule(0, 3, 10, 39, 6, 6);
        due("the last place is too deep", x, 5, 9);
        x.rule(0, 3, 11, 40, 6, 6);
        due("the first place is not deep enough", x, 5, 9);
        x.rule(3, 3, 40, 40, -10000, 10000);
        due("all years", x, 5, 9);
        x.depth(1, 200);
        due("a place between is too deep, the first holds no more", x, -10000, 10000);
    }

    private static void commonPart() {
        RubbingMirrors x = Rows.of(10, 20, 30, 40);
        x.rule(0, 0, 0, 255, -300, 300);
        x.rule(1, 1, 0, 255, -100, 500);
        due("two", x, -100, 300);
        x.rule(2, 2, 0, 255, 300, 10000);
        due("one year", x, 300, 300);
        x.rule(3, 3, 0, 255, 301, 301);
        for (int what = 0; what < 2; what++) {
            CHECK.due("no common part throws", "IllegalStateException", thrownByAge(x, what));
        }
        x.depth(3, RubbingMirrors.NONE);
        due("it holds no more", x, 300, 300);
    }

    private static String thrownByAge(RubbingMirrors x, int what) {
        try {
            x.age(what);
            return "nothing";
        } catch (RuntimeException e) {
            return e.getClass().getSimpleName();
        }
    }

    private static void lostAndGuesses() {
        RubbingMirrors x = Rows.of(10, -1, 30, 40);
        x.rule(0, 2, 0, 255, 1, 2);
        CHECK.due("a lost place", "IllegalStateException", thrownByAge(x, 0));
        x.fill(1, -1);
        due("a guess is not lost", x, 1, 2);
        x.forget();
        CHECK.due("lost again", "IllegalStateException", thrownByAge(x, 1));
        x.depth(1, 255);
        due("known", x, 1, 2);
    }

    private static void wrongPlaces() {
        for (int k : new int[] {Integer.MIN_VALUE, -1, 4, Integer.MAX_VALUE}) {
            CHECK.refused("from " + k, Check.INDEX, () -> withRules(1), x -> x.rule(k, 3, 0, 0, 0, 0));
            CHECK.refused("to " + k, Check.INDEX, () -> withRules(1), x -> x.rule(0, k, 0, 0, 0, 0));
            CHECK.refused("and least too", Check.INDEX, () -> withRules(1), x -> x.rule(0, k, -1, 0, 0, 0));
            CHECK.refused("and no room", Check.INDEX, () -> withRules(8), x -> x.rule(k, k, 0, 0, 0, 0));
        }
    }

    private static void wrongNumbers() {
        int[][] wrong = {{2, 1, 0, 0, 0, 0}, {3, 0, 0, 255, 0, 0}, {0, 0, -1, 0, 0, 0}, {0, 0, 256, 256, 0, 0},
            {0, 0, 5, 4, 0, 0}, {0, 0, 0, 256, 0, 0}, {0, 0, 0, -1, 0, 0}, {0, 0, 0, 0, -10001, 0},
            {0, 0, 0, 0, 10001, 10001}, {0, 0, 0, 0, 5, 4}, {0, 0, 0, 0, 0, 10001},
            {0, 0, Integer.MIN_VALUE, 0, 0, 0}, {0, 0, 0, Integer.MAX_VALUE, 0, 0},
            {0, 0, 0, 0, Integer.MIN_VALUE, 0}, {0, 0, 0, 0, 0, Integer.MAX_VALUE}};
        for (int i = 0; i < wrong.length; i++) {
            int[] r = wrong[i];
            CHECK.refused("wrong rule " + i, Check.ARGUMENT, () -> withRules(1),
                x -> x.rule(r[0], r[1], r[2], r[3], r[4], r[5]));
            CHECK.refused("wrong rule " + i + ", no room", Check.ARGUMENT, () -> withRules(8),
                x -> x.rule(r[0], r[1], r[2], r[3], r[4], r[5]));
        }
    }

    private static void noRoom() {
        CHECK.refused("the ninth rule", Check.STATE, () -> withRules(8), x -> x.rule(0, 0, 0, 255, 50, 50));
    }

    private static void wrongAges() {
        CHECK.refused("no rules", Check.STATE, () -> withRules(0), x -> x.age(0));
        for (int what : new int[] {Integer.MIN_VALUE, -1, 2, Integer.MAX_VALUE}) {
            CHECK.refused("age " + what, Check.INDEX, () -> withRules(1), x -> x.age(what));
            CHECK.refused("age " + what + ", no rules", Check.INDEX, () -> withRules(0), x -> x.age(what));
        }
    }
}
