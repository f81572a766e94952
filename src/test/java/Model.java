import java.util.ArrayList;
import java.util.Arrays;
import java.util.Comparator;
import java.util.List;
import java.util.Optional;
import java.util.stream.IntStream;

/** The searches of the document said a second time: all candidates in a list, the best by a comparator. */
final class Model {
    record Candidate(int which, int place, long total, long count) {
        int compareQuotient(Candidate other) {
            return Long.compare(total * other.count, other.total * count);
        }
    }

    private static final Comparator<Candidate> ORDER = ((Comparator<Candidate>) Candidate::compareQuotient)
        .thenComparing(Comparator.comparingLong(Candidate::count).reversed())
        .thenComparingInt(Candidate::which)
        .thenComparingInt(Candidate::place);

    final int[] depths;
    final boolean[] guesses;
    final List<int[]> shapes = new ArrayList<>();
    final List<int[]> rules = new ArrayList<>();

    /** A kind alone, or a question with its two nodes. */
    final List<int[]> nodes = new ArrayList<>();

    Model(int n) {
        depths = new int[n];
        Arrays.fill(depths, -1);
        guesses = new boolean[n];
    }

    private boolean known(int k) {
        return k >= 0 && k < depths.length && depths[k] >= 0 && !guesses[k];
    }

    Optional<Candidate> mirror() {
        List<Candidate> all = new ArrayList<>();
        int n = depths.length;
        for (int a = 0; a <= 2 * n - 2; a++) {
            long off = 0;
            long pairs = 0;
            for (int i = 0; i < n; i++) {
                for (int j = i + 1; j < n; j++) {
                    if (i + j == a && known(i) && known(j)) {
                        pairs++;
                        off += (long) (depths[i] - depths[j]) * (depths[i] - depths[j]);
                    }
                }
            }
            if (pairs >= 1 && pairs >= n / 4) {
                all.add(new Candidate(a, 0, off, pairs));
            }
        }
        return all.stream().min(ORDER);
    }

    Optional<Candidate> match() {
        List<Candidate> all = new ArrayList<>();
        for (int p = depths.length - 1; p >= 0; p--) {
            for (int s = shapes.size() - 1; s >= 0; s--) {
                int[] shape = shapes.get(s);
                long miss = 0;
                long cover = 0;
                for (int k = p; k < Math.min(p + shape.length, depths.length); k++) {
                    if (depths[k] >= 0) {
                        cover++;
                        miss += Math.max(depths[k], shape[k - p]) - Math.min(depths[k], shape[k - p]);
                    }
                }
                if (cover * 2 >= shape.length) {
                    all.add(new Candidate(s, p, miss, cover));
                }
            }
        }
        return all.stream().min(ORDER);
    }

    long sum(int step) {
        long total = 0;
        for (int k = step; k < depths.length; k++) {
            if (known(k) && known(k - step)) {
                total += (depths[k] - 128L) * (depths[k - step] - 128L);
            }
        }
        return total;
    }

    int repeat(int from, int to) {
        int best = to;
        for (int step = to; step >= from; step--) {
            if (sum(step) >= sum(best)) {
                best = step;
            }
        }
        return best;
    }

    int fill(int step, int a) {
        int[] before = depths.clone();
        boolean[] guessedBefore = guesses.clone();
        int filled = 0;
        for (int k = 0; k < before.length; k++) {
            if (before[k] < 0) {
                List<Integer> sources = new ArrayList<>();
                for (int j = 1; step > 0 && j <= 8; j++) {
                    sources.add(k - j * step);
                    sources.add(k + j * step);
                }
                if (a >= 0) {
                    sources.add(a - k);
                }
                sources.removeIf(s -> s < 0 || s >= before.length || before[s] < 0 || guessedBefore[s]);
                if (!sources.isEmpty()) {
                    depths[k] = before[sources.get(0)];
                    guesses[k] = true;
                    filled++;
                }
            }
        }
        return filled;
    }

    int forget() {
        int count = 0;
        for (int k = 0; k < depths.length; k++) {
            if (guesses[k]) {
                depths[k] = -1;
                guesses[k] = false;
                count++;
            }
        }
        return count;
    }

    /** Asked from a node on; there must be such a node. */
    int ask(int node, int bits, int known) {
        int[] at = nodes.get(node);
        if (at.length == 1) {
            return at[0];
        }
        if (known / (1 << at[0]) % 2 == 0) {
            return -2 - at[0];
        }
        return ask(bits / (1 << at[0]) % 2 == 0 ? at[1] : at[2], bits, known);
    }

    /** Begin and end; nothing if there is no age. */
    Optional<int[]> age() {
        List<int[]> holding = new ArrayList<>();
        for (int[] r : rules) {
            if (IntStream.rangeClosed(r[0], r[1]).map(k -> depths[k])
                .allMatch(d -> d >= 0 && d >= r[2] && d <= r[3])) {
                holding.add(r);
            }
        }
        if (holding.isEmpty()) {
            return Optional.empty();
        }
        int begin = holding.stream().mapToInt(r -> r[4]).max().getAsInt();
        int end = holding.stream().mapToInt(r -> r[5]).min().getAsInt();
        return begin > end ? Optional.empty() : Optional.of(new int[] {begin, end});
    }
}
