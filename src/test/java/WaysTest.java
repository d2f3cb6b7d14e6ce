import java.util.Random;

/** Ways against the model, which tries all changes: laws some steps from one another, with a peace in the way. */
public final class WaysTest {
    private static final int RUNS = 800;
    private static final int WAYS = 4;
    private static final String WORDS = "abcdefg";

    private final Random random;
    private final Twins twins;

    private WaysTest(Bench bench, int seed) {
        random = new Random(seed);
        twins = new Twins(bench, "seed " + seed);
    }

    public static void main(String[] args) {
        Bench bench = new Bench();
        int runs = args.length > 0 ? Integer.parseInt(args[0]) : RUNS;
        for (int seed = 0; seed < runs; seed++) {
            new WaysTest(bench, seed).run();
        }
        bench.finish("WaysTest");
    }

    private int below(int bound) {
        return random.nextInt(bound);
    }

    private void run() {
        StringBuilder text = new StringBuilder("who a; who b; what c; what d; when e; when f; like g a;");
        for (int k = below(4); k > 0; k--) {
            text.append("peace ").append(below(3) == 0 ? "free " : "forbid ").append("ab".charAt(below(2)));
            text.append(' ').append("cd".charAt(below(2))).append(below(2) == 0 ? " any;" : " e;");
        }
        text.append("limit ").append(4 + below(8)).append(';');
        twins.tongue(text.toString());
        for (int turn = 0; turn < 40 && twins.model.sign(false, -1) == 0; turn++) {
            twins.law(false, lawText());
        }
        for (int way = 0; way < WAYS; way++) {
            twins.law(false, lawText());
            twins.makeAlike();
            walk(1 + below(4));
            twins.compareWay(text.toString());
        }
        twins.law(true, lawText());
        twins.compareWay(text.toString());
    }

    private String lawText() {
        StringBuilder text = new StringBuilder();
        for (int sentences = 1 + below(2); sentences > 0; sentences--) {
            for (int terms = below(3); terms > 0; terms--) {
                text.append(term()).append(new String[] {" and ", " or ", " or "}[below(3)]);
            }
            text.append(term()).append(below(3) == 0 ? " unless " + term() : "").append('.');
        }
        return text.toString();
    }

    private String term() {
        return (below(3) == 0 ? "not " : "") + WORDS.charAt(below(WORDS.length()));
    }

    /** So many changes that are taken, of many that are tried. */
    private void walk(int steps) {
        int left = steps;
        for (int tries = 0; tries < 150 && left > 0; tries++) {
            int place = below(twins.model.sign(false, -1) + 1);
            if (twins.edit(below(3), place, below(3) == 0 ? 20 : below(23)) >= 0) {
                left--;
            }
        }
    }
}
