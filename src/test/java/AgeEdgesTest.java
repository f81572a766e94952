/** The boundary cases of the tale of ages and of promises 15 and 16, a test for each sentence that names one. */
public final class AgeEdgesTest {
    private static final Check CHECK = new Check();
    private static final int NONE = RubbingMirrors.NONE;

    public static void main(String[] args) {
        CHECK.sentence("A RULE more: how many there are.", AgeEdgesTest::counts);
        CHECK.sentence("rule: IndexOutOfBoundsException: from or to is no place", AgeEdgesTest::placeRange);
        CHECK.sentence("rule: IllegalArgumentException: to is below from", AgeEdgesTest::toBelowFrom);
        CHECK.sentence("rule: least not 0 .. 255", AgeEdgesTest::leastRange);
        CHECK.sentence("rule: greatest not least .. 255", AgeEdgesTest::greatestRange);
        CHECK.sentence("rule: year not -10000 .. 10000", AgeEdgesTest::yearRange);
        CHECK.sentence("rule: or until not year .. 10000", AgeEdgesTest::untilRange);
        CHECK.sentence("rule: IllegalStateException: there are 8.", AgeEdgesTest::fullTale);
        CHECK.sentence("rule: of several exceptions the one named first", AgeEdgesTest::ruleOrder);
        CHECK.sentence("A rule HOLDS if none of its places is LOST", AgeEdgesTest::lostPlaces);
        CHECK.sentence("and all DEPTHS are within", AgeEdgesTest::within);
        CHECK.sentence("the common part of all SPANS of rules that hold", AgeEdgesTest::commonPart);
        CHECK.sentence("AGE: its begin (what = 0), its end (1).", AgeEdgesTest::beginAndEnd);
        CHECK.sentence("age: IndexOutOfBoundsException", AgeEdgesTest::whatRange);
        CHECK.sentence("age: IllegalStateException: no rule holds", AgeEdgesTest::noneHolds);
        CHECK.sentence("age: or there is no common part", AgeEdgesTest::noCommonPart);
        CHECK.end();
    }

    private static void due(String what, RubbingMirrors x, int begin, int end) {
        CHECK.due(what + ": begin", begin, x.age(0));
        CHECK.due(what + ": end", end, x.age(1));
    }

    private static void dueNone(String what, RubbingMirrors x) {
        CHECK.due(what + ": begin", Check.STATE.getName(), Check.thrownBy(() -> x.age(0)));
        CHECK.due(what + ": end", Check.STATE.getName(), Check.thrownBy(() -> x.age(1)));
    }

    private static RubbingMirrors tale(int rules) {
        RubbingMirrors x = Rows.of(10, 20, 30, 40);
        for (int i = 0; i < rules; i++) {
            x.rule(0, 3, 0, 255, i, 100 - i);
        }
        return x;
    }

    private static void counts() {
        RubbingMirrors x = new RubbingMirrors(4);
        for (int i = 1; i <= 8; i++) {
            CHECK.due("how many", i, x.rule(0, 3, 0, 255, 0, 0));
            CHECK.due("a refused rule", Check.INDEX.getName(), Check.thrownBy(() -> x.rule(0, 4, 0, 255, 0, 0)));
            CHECK.due("another", Check.ARGUMENT.getName(), Check.thrownBy(() -> x.rule(0, 3, 0, 256, 0, 0)));
        }
        for (int i = 1; i <= 8; i++) {
            due("each of " + i + " tells", tale(i), i - 1, 101 - i);
        }
    }

    private static void placeRange() {
        for (int n : new int[] {4, 5, 63, 64}) {
            CHECK.range("n = " + n + ", from", 0, n - 1, Check.INDEX, () -> new RubbingMirrors(n),
                (x, from) -> x.rule(from, n - 1, 0, 255, 0, 0));
            CHECK.range("n = " + n + ", to", 0, n - 1, Check.INDEX, () -> new RubbingMirrors(n),
                (x, to) -> x.rule(0, to, 0, 255, 0, 0));
        }
        CHECK.refused("neither is a place", Check.INDEX, () -> tale(1), x -> x.rule(4, 4, 0, 255, 0, 0));
        CHECK.refused("neither is a place, below", Check.INDEX, () -> tale(1), x -> x.rule(-1, -1, 0, 255, 0, 0));
    }

    private static void toBelowFrom() {
        for (int from = 0; from < 4; from++) {
            for (int to = 0; to < 4; to++) {
                int first = from;
                int last = to;
                if (to < from) {
                    CHECK.refused("from " + from + " to " + to, Check.ARGUMENT, () -> tale(1),
                        x -> x.rule(first, last, 0, 255, 0, 0));
                } else {
                    CHECK.taken("from " + from + " to " + to, () -> tale(1),
                        x -> x.rule(first, last, 0, 255, 0, 0));
                }
            }
        }
        CHECK.refused("from the last to the first", Check.ARGUMENT, () -> new RubbingMirrors(64),
            x -> x.rule(63, 0, 0, 255, 0, 0));
        CHECK.refused("from the last to the one before", Check.ARGUMENT, () -> new RubbingMirrors(64),
            x -> x.rule(63, 62, 0, 255, 0, 0));
        // What is no place is no place, though it is below from too.
        CHECK.refused("to -1", Check.INDEX, () -> tale(1), x -> x.rule(0, -1, 0, 255, 0, 0));
        CHECK.refused("from n", Check.INDEX, () -> tale(1), x -> x.rule(4, 3, 0, 255, 0, 0));
    }

    private static void leastRange() {
        CHECK.range("least", 0, 255, Check.ARGUMENT, () -> tale(1), (x, least) -> x.rule(0, 0, least, 255, 0, 0));
        CHECK.refused("least and greatest are 256", Check.ARGUMENT, () -> tale(1), x -> x.rule(0, 0, 256, 256, 0, 0));
        CHECK.refused("least and greatest are -1", Check.ARGUMENT, () -> tale(1), x -> x.rule(0, 0, -1, -1, 0, 0));
    }

    private static void greatestRange() {
        for (int least : new int[] {0, 1, 128, 254, 255}) {
            CHECK.range("least " + least + ", greatest", least, 255, Check.ARGUMENT, () -> tale(1),
                (x, greatest) -> x.rule(0, 0, least, greatest, 0, 0));
        }
    }

    private static void yearRange() {
        CHECK.range("year", -10000, 10000, Check.ARGUMENT, () -> tale(1),
            (x, year) -> x.rule(0, 0, 0, 255, year, 10000));
        CHECK.refused("year and until are 10001", Check.ARGUMENT, () -> tale(1),
            x -> x.rule(0, 0, 0, 255, 10001, 10001));
        CHECK.refused("year and until are -10001", Check.ARGUMENT, () -> tale(1),
            x -> x.rule(0, 0, 0, 255, -10001, -10001));
    }

    private static void untilRange() {
        for (int year : new int[] {-10000, -9999, -1, 0, 1, 9999, 10000}) {
            CHECK.range("year " + year + ", until", year, 10000, Check.ARGUMENT, () -> tale(1),
                (x, until) -> x.rule(0, 0, 0, 255, year, until));
        }
    }

    private static void fullTale() {
        CHECK.refused("the ninth rule", Check.STATE, () -> tale(8), x -> x.rule(0, 0, 0, 255, 50, 50));
        CHECK.refused("the ninth rule, the least of all", Check.STATE, () -> tale(8),
            x -> x.rule(0, 0, 0, 0, -10000, -10000));
        CHECK.refused("the ninth rule, the greatest of all", Check.STATE, () -> tale(8),
            x -> x.rule(3, 3, 255, 255, 10000, 10000));
        due("a full tale tells", tale(8), 7, 93);
    }

    private static void ruleOrder() {
        int[][] wrong = {{2, 1, 0, 0, 0, 0}, {0, 0, -1, 0, 0, 0}, {0, 0, 256, 256, 0, 0}, {0, 0, 5, 4, 0, 0},
            {0, 0, 0, 256, 0, 0}, {0, 0, 0, 0, -10001, 0}, {0, 0, 0, 0, 10001, 10001}, {0, 0, 0, 0, 5, 4},
            {0, 0, 0, 0, 0, 10001}};
        for (int rules : new int[] {0, 8}) {
            for (int i = 0; i < wrong.length; i++) {
                int[] r = wrong[i];
                String what = "wrong " + i + " behind " + rules;
                CHECK.refused(what, Check.ARGUMENT, () -> tale(rules),
                    x -> x.rule(r[0], r[1], r[2], r[3], r[4], r[5]));
                CHECK.refused(what + ", from is no place", Check.INDEX, () -> tale(rules),
                    x -> x.rule(-1, r[1], r[2], r[3], r[4], r[5]));
                CHECK.refused(what + ", to is no place", Check.INDEX, () -> tale(rules),
                    x -> x.rule(r[0], 4, r[2], r[3], r[4], r[5]));
            }
        }
        CHECK.refused("from is no place, and no room", Check.INDEX, () -> tale(8), x -> x.rule(4, 3, 0, 255, 0, 0));
        CHECK.refused("to is no place, and no room", Check.INDEX, () -> tale(8), x -> x.rule(0, 4, 0, 255, 0, 0));
    }

    private static void lostPlaces() {
        for (int lost = 0; lost < 5; lost++) {
            RubbingMirrors x = Rows.of(10, 20, 30, 40, 50);
            x.depth(lost, NONE);
            x.rule(1, 3, 0, 255, 5, 6);
            if (lost >= 1 && lost <= 3) {
                dueNone("place " + lost + " of 1 .. 3 is lost", x);
                x.depth(lost, 0);
            }
            due("the lost place is none of 1 .. 3", x, 5, 6);
        }
        RubbingMirrors x = Rows.of(10, NONE, 30, 40);
        x.rule(0, 3, 0, 255, 5, 6);
        dueNone("one is lost", x);
        x.fill(1, NONE);
        due("a guess is not lost", x, 5, 6);
        x.forget();
        dueNone("it is forgotten", x);
    }

    private static void within() {
        int[][] holds = {{0, 0}, {0, 255}, {255, 255}, {7, 7}, {7, 9}};
        for (int[] span : holds) {
            for (int depth : new int[] {span[0] - 1, span[0], span[1], span[1] + 1}) {
                if (depth >= 0 && depth <= 255) {
                    RubbingMirrors x = Rows.of(depth, NONE, NONE, NONE);
                    x.rule(0, 0, span[0], span[1], 5, 6);
                    String what = depth + " within " + span[0] + " .. " + span[1];
                    if (depth >= span[0] && depth <= span[1]) {
                        due(what, x, 5, 6);
                    } else {
                        dueNone(what, x);
                    }
                }
            }
        }
        for (int k = 0; k < 6; k++) {
            RubbingMirrors x = Rows.of(100, 100, 100, 100, 100, 100);
            x.depth(k, 101);
            x.rule(1, 4, 100, 100, 5, 6);
            if (k >= 1 && k <= 4) {
                dueNone("place " + k + " of 1 .. 4 is too deep", x);
            } else {
                due("place " + k + " is none of 1 .. 4", x, 5, 6);
            }
        }
        RubbingMirrors x = new RubbingMirrors(64);
        for (int k = 0; k < 64; k++) {
            x.depth(k, 3);
        }
        x.rule(0, 63, 3, 3, 5, 6);
        due("the whole row", x, 5, 6);
        x.depth(63, 4);
        dueNone("but for its last place", x);
        x.depth(63, 3);
        x.depth(0, 2);
        dueNone("but for its first place", x);
    }

    private static void commonPart() {
        RubbingMirrors x = Rows.of(10, 20, 30, 40);
        x.rule(0, 0, 0, 255, -10000, 10000);
        due("all years", x, -10000, 10000);
        x.rule(0, 0, 0, 255, -300, 300);
        due("a part within", x, -300, 300);
        x.rule(1, 1, 0, 255, -100, 500);
        due("a part over the end", x, -100, 300);
        x.rule(1, 1, 0, 255, -500, 200);
        due("a part over the begin", x, -100, 200);
        x.rule(2, 2, 31, 255, 0, 0);
        due("a rule that does not hold tells nothing", x, -100, 200);
        x.rule(3, 3, 0, 255, 200, 400);
        due("one common year", x, 200, 200);
        x.depth(3, NONE);
        due("the rule holds no more", x, -100, 200);
        for (int i = 0; i < 8; i++) {
            RubbingMirrors y = Rows.of(10, 20, 30, 40);
            for (int told = 0; told < 8; told++) {
                y.rule(0, 0, told == i ? 0 : 11, 255, told, told);
            }
            due("only rule " + i + " of eight holds", y, i, i);
        }
    }

    private static void beginAndEnd() {
        int[][] spans = {{-10000, -10000}, {10000, 10000}, {0, 0}, {-1, 1}, {-10000, 10000}};
        for (int[] span : spans) {
            RubbingMirrors x = Rows.of(10, 20, 30, 40);
            x.rule(0, 0, 0, 255, span[0], span[1]);
            due("years " + span[0] + " .. " + span[1], x, span[0], span[1]);
        }
    }

    private static void whatRange() {
        for (int rules : new int[] {1, 8}) {
            CHECK.range("age of " + rules + " rules", 0, 1, Check.INDEX, () -> tale(rules), (x, what) -> x.age(what));
        }
        for (int what : new int[] {Integer.MIN_VALUE, -1, 2, Integer.MAX_VALUE}) {
            CHECK.refused("age " + what + " of an empty tale", Check.INDEX, () -> tale(0), x -> x.age(what));
            CHECK.refused("age " + what + " on an empty row", Check.INDEX, AgeEdgesTest::emptyRow, x -> x.age(what));
            CHECK.refused("age " + what + " without a common part", Check.INDEX, () -> apart(5, 6),
                x -> x.age(what));
        }
    }

    private static RubbingMirrors emptyRow() {
        RubbingMirrors x = new RubbingMirrors(4);
        x.rule(0, 0, 0, 255, 0, 10);
        return x;
    }

    private static RubbingMirrors apart(int end, int begin) {
        RubbingMirrors x = Rows.of(10, 20, 30, 40);
        x.rule(0, 0, 0, 255, -10000, end);
        x.rule(0, 0, 0, 255, begin, 10000);
        return x;
    }

    private static void noneHolds() {
        for (int what : new int[] {0, 1}) {
            CHECK.refused("age " + what + " of an empty tale", Check.STATE, () -> tale(0), x -> x.age(what));
            CHECK.refused("age " + what + " of an empty tale and row", Check.STATE, () -> new RubbingMirrors(64),
                x -> x.age(what));
            CHECK.refused("age " + what + " on an empty row", Check.STATE, AgeEdgesTest::emptyRow, x -> x.age(what));
            CHECK.refused("age " + what + ", too deep", Check.STATE, () -> {
                RubbingMirrors x = Rows.of(11, 0, 0, 0);
                x.rule(0, 0, 0, 10, -10000, 10000);
                return x;
            }, x -> x.age(what));
        }
    }

    private static void noCommonPart() {
        int[][] spans = {{5, 6}, {-10000, -9999}, {9999, 10000}, {-10000, 10000}, {-1, 0}};
        for (int[] span : spans) {
            for (int what : new int[] {0, 1}) {
                CHECK.refused("age " + what + " of .. " + span[0] + " and " + span[1] + " ..", Check.STATE,
                    () -> apart(span[0], span[1]), x -> x.age(what));
            }
        }
        for (int year : new int[] {-10000, -1, 0, 5, 10000}) {
            due("they meet in the year " + year, apart(year, year), year, year);
        }
        due("they share two years", apart(6, 5), 5, 6);
        RubbingMirrors x = Rows.of(10, 20, 30, 40);
        x.rule(0, 0, 0, 255, 0, 10);
        x.rule(0, 0, 0, 255, 5, 20);
        x.rule(0, 0, 0, 255, 15, 30);
        dueNone("the second meets both others, which do not meet", x);
    }
}
