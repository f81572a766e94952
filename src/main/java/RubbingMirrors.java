import java.util.ArrayList;
import java.util.Arrays;

/** Old carvings from their rubbings: see the document for the words used here. */
public final class RubbingMirrors {
    public static final int NONE = -1;

    private static final int LEAST_PLACES = 4;
    private static final int MOST_PLACES = 64;
    private static final int DEEPEST = 255;
    private static final int MIDDLE_DEPTH = 128;
    private static final int FILL_REACH = 8;
    private static final int MOST_SHAPES = 8;
    private static final int SHORTEST_SHAPE = 2;
    private static final int LONGEST_SHAPE = 16;
    private static final int MOST_NODES = 16;
    private static final int LAST_QUESTION = 15;
    private static final int LAST_KIND = 1000;
    private static final int ALL_BITS = 65535;
    private static final int MOST_RULES = 8;
    private static final int FIRST_YEAR = -10000;
    private static final int LAST_YEAR = 10000;

    private final Row row;
    private final ArrayList<Shape> shapes = new ArrayList<>();
    private final ArrayList<Node> nodes = new ArrayList<>();
    private final ArrayList<Rule> rules = new ArrayList<>();

    // Kept and used again, so that a search makes no object.
    private final Best best = new Best();

    public RubbingMirrors(int n) {
        row = new Row(Math.max(LEAST_PLACES, Math.min(MOST_PLACES, n)));
    }

    public void depth(int k, int v) throws IndexOutOfBoundsException, IllegalArgumentException {
        if (!row.has(k)) {
            throw new IndexOutOfBoundsException("no such place");
        }
        if (!isWithin(v, NONE, DEEPEST)) {
            throw new IllegalArgumentException("v is not NONE .. 255");
        }
        row.put(k, v);
    }

    public int place(int k, int what) throws IndexOutOfBoundsException {
        if (!row.has(k)) {
            throw new IndexOutOfBoundsException("no such place");
        }
        if (!isWithin(what, 0, 1)) {
            throw new IndexOutOfBoundsException("no such what");
        }
        if (what == 0) {
            return row.depthAt(k);
        }
        return row.isGuess(k) ? 1 : 0;
    }

    public long mirror(int what) throws IllegalStateException, IndexOutOfBoundsException {
        findMirror();
        if (!best.found) {
            throw new IllegalStateException("no mirror counts");
        }
        if (!isWithin(what, 0, 2)) {
            throw new IndexOutOfBoundsException("no such what");
        }
        if (what == 0) {
            return best.which;
        }
        return what == 1 ? best.total : best.count;
    }

    public long sum(int step) throws IllegalArgumentException {
        if (!isWithin(step, 1, row.size() - 1)) {
            throw new IllegalArgumentException("step is not 1 .. n - 1");
        }
        return row.repeatSum(step);
    }

    public int repeat(int from, int to) throws IllegalArgumentException {
        int last = row.size() - 1;
        if (!isWithin(from, 1, last) || !isWithin(to, from, last)) {
            throw new IllegalArgumentException("from is not 1 .. n - 1, or to not from .. n - 1");
        }
        int bestStep = from;
        long bestSum = row.repeatSum(from);
        for (int step = from + 1; step <= to; step++) {
            long stepSum = row.repeatSum(step);
            if (stepSum > bestSum) {
                bestStep = step;
                bestSum = stepSum;
            }
        }
        return bestStep;
    }

    public int fill(int step, int mirror) throws IllegalArgumentException {
        if (!isWithin(step, 0, row.size() - 1)) {
            throw new IllegalArgumentException("step is not 0 .. n - 1");
        }
        if (!isWithin(mirror, NONE, row.lastMirror())) {
            throw new IllegalArgumentException("mirror is not NONE .. 2 n - 2");
        }
        return row.guessLost(step, mirror);
    }

    public int forget() {
        return row.loseGuesses();
    }

    public int shape(int length) throws IllegalArgumentException, IllegalStateException {
        if (!isWithin(length, SHORTEST_SHAPE, LONGEST_SHAPE)) {
            throw new IllegalArgumentException("length is not 2 .. 16");
        }
        if (shapes.size() >= MOST_SHAPES) {
            throw new IllegalStateException("there are 8 shapes");
        }
        shapes.add(new Shape(length));
        return shapes.size() - 1;
    }

    public void carve(int shape, int k, int v) throws IndexOutOfBoundsException, IllegalArgumentException {
        if (!isWithin(shape, 0, shapes.size() - 1)) {
            throw new IndexOutOfBoundsException("no such shape");
        }
        Shape carved = shapes.get(shape);
        if (!carved.has(k)) {
            throw new IndexOutOfBoundsException("no such place in the shape");
        }
        if (!isWithin(v, 0, DEEPEST)) {
            throw new IllegalArgumentException("v is not 0 .. 255");
        }
        carved.put(k, v);
    }

    public int match(int what) throws IllegalStateException, IndexOutOfBoundsException {
        findMatch();
        if (!best.found) {
            throw new IllegalStateException("no shape counts anywhere");
        }
        switch (what) {
            case 0:
                return best.which;
            case 1:
                return best.at;
            case 2:
                return best.total;
            case 3:
                return best.count;
            default:
                throw new IndexOutOfBoundsException("no such what");
        }
    }

    public int kind(int kind) throws IllegalArgumentException, IllegalStateException {
        if (!isWithin(kind, 0, LAST_KIND)) {
            throw new IllegalArgumentException("kind is not 0 .. 1000");
        }
        if (nodes.size() >= MOST_NODES) {
            throw new IllegalStateException("there are 16 nodes");
        }
        nodes.add(new Node(NONE, kind, NONE, NONE));
        return nodes.size() - 1;
    }

    public int question(int q, int no, int yes)
            throws IndexOutOfBoundsException, IllegalArgumentException, IllegalStateException {
        int latest = nodes.size() - 1;
        if (!isWithin(no, 0, latest) || !isWithin(yes, 0, latest)) {
            throw new IndexOutOfBoundsException("no such node");
        }
        if (!isWithin(q, 0, LAST_QUESTION)) {
            throw new IllegalArgumentException("q is not 0 .. 15");
        }
        if (nodes.size() >= MOST_NODES) {
            throw new IllegalStateException("there are 16 nodes");
        }
        nodes.add(new Node(q, NONE, no, yes));
        return nodes.size() - 1;
    }

    public int ask(int bits, int known) throws IllegalArgumentException, IllegalStateException {
        if (!isWithin(bits, 0, ALL_BITS) || !isWithin(known, 0, ALL_BITS)) {
            throw new IllegalArgumentException("bits or known is not 0 .. 65535");
        }
        if (nodes.isEmpty()) {
            throw new IllegalStateException("there are no nodes");
        }
        Node end = lastAsked(bits, known);
        return end.isQuestion() ? -2 - end.asked : end.named;
    }

    public int rule(int from, int to, int least, int greatest, int year, int until)
            throws IndexOutOfBoundsException, IllegalArgumentException, IllegalStateException {
        if (!row.has(from) || !row.has(to)) {
            throw new IndexOutOfBoundsException("from or to is no place");
        }
        if (to < from) {
            throw new IllegalArgumentException("to is below from");
        }
        if (!isWithin(least, 0, DEEPEST) || !isWithin(greatest, least, DEEPEST)) {
            throw new IllegalArgumentException("least is not 0 .. 255, or greatest not least .. 255");
        }
        if (!isWithin(year, FIRST_YEAR, LAST_YEAR) || !isWithin(until, year, LAST_YEAR)) {
            throw new IllegalArgumentException("year is not -10000 .. 10000, or until not year .. 10000");
        }
        if (rules.size() >= MOST_RULES) {
            throw new IllegalStateException("there are 8 rules");
        }
        rules.add(new Rule(from, to, least, greatest, year, until));
        return rules.size();
    }

    public int age(int what) throws IndexOutOfBoundsException, IllegalStateException {
        if (!isWithin(what, 0, 1)) {
            throw new IndexOutOfBoundsException("no such what");
        }
        int begin = FIRST_YEAR;
        int end = LAST_YEAR;
        boolean anyHolds = false;
        for (int i = 0; i < rules.size(); i++) {
            Rule told = rules.get(i);
            if (told.holdsOn(row)) {
                anyHolds = true;
                begin = Math.max(begin, told.year);
                end = Math.min(end, told.until);
            }
        }
        if (!anyHolds) {
            throw new IllegalStateException("no rule holds");
        }
        if (begin > end) {
            throw new IllegalStateException("there is no common part");
        }
        return what == 0 ? begin : end;
    }

    private static boolean isWithin(int number, int least, int greatest) {
        return number >= least && number <= greatest;
    }

    private void findMirror() {
        int fewestPairs = Math.max(1, row.size() / 4);
        best.clear();
        for (int a = 0; a <= row.lastMirror(); a++) {
            int pairs = row.mirrorPairs(a);
            if (pairs >= fewestPairs) {
                best.offer(a, NONE, row.mirrorOff(a), pairs);
            }
        }
    }

    private void findMatch() {
        best.clear();
        for (int s = 0; s < shapes.size(); s++) {
            Shape tried = shapes.get(s);
            for (int p = 0; p < row.size(); p++) {
                int cover = tried.coverAt(row, p);
                if (cover >= tried.leastCover()) {
                    best.offer(s, p, tried.missAt(row, p), cover);
                }
            }
        }
    }

    /** The node where asking ends; there must be a node. */
    private Node lastAsked(int bits, int known) {
        int latest = nodes.size() - 1;
        Node at = nodes.get(latest);
        // A question leads only to nodes told before it, so this many steps are always enough.
        for (int steps = 0; steps < MOST_NODES && at.isAnsweredBy(known); steps++) {
            int next = at.nextBy(bits);
            if (isWithin(next, 0, latest)) {
                at = nodes.get(next);
            }
        }
        return at;
    }

    /** The depths of the rubbing. Off the row nothing is known, and all is as if lost. */
    private static final class Row {
        private final int[] depths;
        private final boolean[] guesses;

        Row(int n) {
            depths = new int[n];
            guesses = new boolean[n];
            Arrays.fill(depths, NONE);
        }

        int size() {
            return depths.length;
        }

        int lastMirror() {
            return 2 * depths.length - 2;
        }

        boolean has(int k) {
            return k >= 0 && k < depths.length;
        }

        int depthAt(int k) {
            return has(k) ? depths[k] : NONE;
        }

        boolean isGuess(int k) {
            return has(k) && guesses[k];
        }

        boolean isKnown(int k) {
            return has(k) && depths[k] != NONE && !guesses[k];
        }

        void put(int k, int v) {
            if (has(k)) {
                depths[k] = v;
                guesses[k] = false;
            }
        }

        int mirrorPairs(int a) {
            int pairs = 0;
            for (int i = 0; i < a - i; i++) {
                if (isKnown(i) && isKnown(a - i)) {
                    pairs++;
                }
            }
            return pairs;
        }

        int mirrorOff(int a) {
            int off = 0;
            for (int i = 0; i < a - i; i++) {
                if (isKnown(i) && isKnown(a - i)) {
                    int difference = depths[i] - depths[a - i];
                    off += difference * difference;
                }
            }
            return off;
        }

        long repeatSum(int step) {
            long total = 0;
            for (int k = 0; k < depths.length - step; k++) {
                if (isKnown(k) && isKnown(k + step)) {
                    total += (depths[k] - MIDDLE_DEPTH) * (depths[k + step] - MIDDLE_DEPTH);
                }
            }
            return total;
        }

        int guessLost(int step, int a) {
            int filled = 0;
            for (int k = 0; k < depths.length; k++) {
                int source = depths[k] == NONE ? sourceFor(k, step, a) : NONE;
                if (has(source)) {
                    depths[k] = depths[source];
                    guesses[k] = true;
                    filled++;
                }
            }
            return filled;
        }

        /** The known place that a lost one is filled from, or NONE. */
        private int sourceFor(int k, int step, int a) {
            for (int times = 1; step > 0 && times <= FILL_REACH; times++) {
                if (isKnown(k - times * step)) {
                    return k - times * step;
                }
                if (isKnown(k + times * step)) {
                    return k + times * step;
                }
            }
            return a != NONE && isKnown(a - k) ? a - k : NONE;
        }

        int loseGuesses() {
            int lost = 0;
            for (int k = 0; k < depths.length; k++) {
                if (guesses[k]) {
                    depths[k] = NONE;
                    guesses[k] = false;
                    lost++;
                }
            }
            return lost;
        }
    }

    private static final class Shape {
        private final int[] depths;

        Shape(int length) {
            depths = new int[length];
            Arrays.fill(depths, MIDDLE_DEPTH);
        }

        boolean has(int k) {
            return k >= 0 && k < depths.length;
        }

        void put(int k, int v) {
            if (has(k)) {
                depths[k] = v;
            }
        }

        int leastCover() {
            return (depths.length + 1) / 2;
        }

        int coverAt(Row row, int p) {
            int cover = 0;
            for (int k = 0; k < depths.length; k++) {
                if (row.depthAt(p + k) != NONE) {
                    cover++;
                }
            }
            return cover;
        }

        int missAt(Row row, int p) {
            int miss = 0;
            for (int k = 0; k < depths.length; k++) {
                int carved = row.depthAt(p + k);
                if (carved != NONE) {
                    miss += Math.abs(depths[k] - carved);
                }
            }
            return miss;
        }
    }

    /** A kind, whose asked is NONE, or a question. */
    private static final class Node {
        private final int asked;
        private final int named;
        private final int no;
        private final int yes;

        Node(int asked, int named, int no, int yes) {
            this.asked = asked;
            this.named = named;
            this.no = no;
            this.yes = yes;
        }

        boolean isQuestion() {
            return asked != NONE;
        }

        boolean isAnsweredBy(int known) {
            return isQuestion() && (known >> asked & 1) == 1;
        }

        int nextBy(int bits) {
            return (bits >> asked & 1) == 1 ? yes : no;
        }
    }

    private static final class Rule {
        private final int from;
        private final int to;
        private final int least;
        private final int greatest;
        private final int year;
        private final int until;

        Rule(int from, int to, int least, int greatest, int year, int until) {
            this.from = from;
            this.to = to;
            this.least = least;
            this.greatest = greatest;
            this.year = year;
            this.until = until;
        }

        /** A lost place is NONE deep, which is below every least depth. */
        boolean holdsOn(Row row) {
            for (int k = from; k <= to; k++) {
                if (!isWithin(row.depthAt(k), least, greatest)) {
                    return false;
                }
            }
            return true;
        }
    }

    /**
     * What has the least total by count of all that was offered, of several the greatest count,
     * then the first offered: so offers come in the order in which the document prefers them.
     */
    private static final class Best {
        private boolean found;
        private int which;
        private int at;
        private int total;
        private int count;

        void clear() {
            found = false;
        }

        void offer(int which, int at, int total, int count) {
            if (!found || isBetter(total, count)) {
                found = true;
                this.which = which;
                this.at = at;
                this.total = total;
                this.count = count;
            }
        }

        // Products instead of quotients compare exactly, and nothing is divided.
        private boolean isBetter(int newTotal, int newCount) {
            long mine = (long) newTotal * count;
            long held = (long) total * newCount;
            return mine < held || mine == held && newCount > count;
        }
    }
}
