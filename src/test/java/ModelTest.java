import java.util.Optional;
import java.util.Random;
import java.util.function.LongSupplier;

/** Long runs of calls on many objects, the same on the model; the seeds are fixed, so every run is the same. */
public final class ModelTest {
    private static final Check CHECK = new Check();
    private static final int NOTHING = Integer.MIN_VALUE;

    private final Random random;
    private final int n;
    private final int depthsUsed;
    private final RubbingMirrors x;
    private final Model model;

    private ModelTest(int seed) {
        random = new Random(seed);
        n = 4 + random.nextInt(61);
        // Few depths make ties, many make none.
        depthsUsed = seed % 3 == 0 ? 2 : seed % 3 == 1 ? 6 : 256;
        x = new RubbingMirrors(n);
        model = new Model(n);
    }

    public static void main(String[] args) {
        for (int seed = 0; seed < 600; seed++) {
            new ModelTest(seed).run();
        }
        CHECK.end();
    }

    private void run() {
        int first = random.nextInt(n + 1);
        for (int k = 0; k < first; k++) {
            tellDepth(k);
        }
        for (int turn = 0; turn < 20; turn++) {
            change();
            compareFits();
            compareSums();
            compareRow();
            compareKey();
        }
    }

    private void change() {
        switch (random.nextInt(7)) {
            case 0 -> tellDepth(random.nextInt(n));
            case 1 -> {
                int step = random.nextInt(n);
                int a = random.nextInt(2 * n) - 1;
                CHECK.due("fill " + step + " " + a, model.fill(step, a), x.fill(step, a));
            }
            case 2 -> CHECK.due("forget", model.forget(), x.forget());
            case 3 -> tellShape();
            case 4 -> tellRule();
            case 5 -> tellNode();
            default -> tellDepth(random.nextInt(n));
        }
    }

    private void tellDepth(int k) {
        int v = random.nextInt(4) == 0 ? -1 : 120 + random.nextInt(depthsUsed) & 255;
        x.depth(k, v);
        model.depths[k] = v;
        model.guesses[k] = false;
    }

    private void tellShape() {
        if (model.shapes.size() < 8) {
            int[] depths = new int[2 + random.nextInt(15)];
            CHECK.due("shape", model.shapes.size(), x.shape(depths.length));
            for (int k = 0; k < depths.length; k++) {
                depths[k] = 120 + random.nextInt(depthsUsed) & 255;
                x.carve(model.shapes.size(), k, depths[k]);
            }
            model.shapes.add(depths);
        }
    }

    private void tellRule() {
        if (model.rules.size() < 8) {
            int from = random.nextInt(n);
            int to = Math.min(n - 1, from + random.nextInt(4));
            int least = random.nextInt(121);
            int greatest = least + random.nextInt(256 - least);
            int year = random.nextInt(20001) - 10000;
            int until = year + random.nextInt(10001 - year);
            model.rules.add(new int[] {from, to, least, greatest, year, until});
            CHECK.due("rule", model.rules.size(), x.rule(from, to, least, greatest, year, until));
        }
    }

    private void tellNode() {
        int count = model.nodes.size();
        if (count < 16) {
            boolean isKind = count == 0 || random.nextInt(3) == 0;
            int[] node = isKind ? new int[] {random.nextInt(1001)}
                : new int[] {random.nextInt(16), random.nextInt(count), random.nextInt(count)};
            CHECK.due("node", count, isKind ? x.kind(node[0]) : x.question(node[0], node[1], node[2]));
            model.nodes.add(node);
        }
    }

    private static long answer(LongSupplier call) {
        try {
            return call.getAsLong();
        } catch (IllegalStateException e) {
            return NOTHING;
        }
    }

    private void compareFits() {
        Optional<Model.Candidate> mirror = model.mirror();
        CHECK.due("mirror", mirror.map(c -> (long) c.which()).orElse((long) NOTHING), answer(() -> x.mirror(0)));
        CHECK.due("OFF", mirror.map(c -> c.total()).orElse((long) NOTHING), answer(() -> x.mirror(1)));
        CHECK.due("PAIRS", mirror.map(c -> c.count()).orElse((long) NOTHING), answer(() -> x.mirror(2)));
        Optional<Model.Candidate> match = model.match();
        CHECK.due("SHAPE", match.map(c -> (long) c.which()).orElse((long) NOTHING), answer(() -> x.match(0)));
        CHECK.due("place", match.map(c -> (long) c.place()).orElse((long) NOTHING), answer(() -> x.match(1)));
        CHECK.due("MISS", match.map(c -> c.total()).orElse((long) NOTHING), answer(() -> x.match(2)));
        CHECK.due("COVER", match.map(c -> c.count()).orElse((long) NOTHING), answer(() -> x.match(3)));
        Optional<int[]> age = model.age();
        CHECK.due("begin", age.map(years -> years[0]).orElse(NOTHING), answer(() -> x.age(0)));
        CHECK.due("end", age.map(years -> years[1]).orElse(NOTHING), answer(() -> x.age(1)));
    }

    private void compareSums() {
        int from = 1 + random.nextInt(n - 1);
        int to = from + random.nextInt(n - from);
        CHECK.due("sum " + from, model.sum(from), x.sum(from));
        CHECK.due("repeat " + from + " " + to, model.repeat(from, to), x.repeat(from, to));
    }

    private void compareRow() {
        int k = random.nextInt(n);
        CHECK.due("depth " + k, model.depths[k], x.place(k, 0));
        CHECK.due("guess " + k, model.guesses[k] ? 1 : 0, x.place(k, 1));
    }

    private void compareKey() {
        int latest = model.nodes.size() - 1;
        int bits = random.nextInt(65536);
        int known = random.nextInt(65536) | random.nextInt(65536);
        CHECK.due("ask " + bits + " " + known, latest < 0 ? NOTHING : model.ask(latest, bits, known),
            answer(() -> x.ask(bits, known)));
    }
}
