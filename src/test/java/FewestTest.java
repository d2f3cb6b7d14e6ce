import java.util.Random;

/** THE FEWEST against the model, which tries all pairs: laws of some short sentences in tongues of all sizes. */
public final class FewestTest {
    private static final String[] SORTS = {"abcd", "efgh", "ijkl"};
    private static final int LAWS = 40;

    private final Random random = new Random(20261118);
    private final Bench bench = new Bench();
    private final StringBuilder spoken = new StringBuilder();

    public static void main(String[] args) {
        FewestTest test = new FewestTest();
        Twins twins = new Twins(test.bench, "fewest");
        test.compareWith(twins, 4, 4, 4);
        test.compareWith(twins, 1, 1, 1);
        test.compareWith(twins, 2, 2, 1);
        test.compareWith(twins, 4, 4, 4);
        test.compareWith(twins, 3, 2, 2);
        test.compareWith(twins, 3, 4, 1);
        test.bench.finish("FewestTest");
    }

    /** One object speaks all tongues in turn, so that nothing of an old one may be left. */
    private void compareWith(Twins twins, int whos, int whats, int whens) {
        int[] counts = {whos, whats, whens};
        StringBuilder text = new StringBuilder();
        spoken.setLength(0);
        for (int sort = 0; sort < 3; sort++) {
            for (int k = 0; k < counts[sort]; k++) {
                text.append(new String[] {"who ", "what ", "when "}[sort]).append(SORTS[sort].charAt(k)).append(';');
                spoken.append(SORTS[sort].charAt(k));
            }
        }
        twins.tongue(text.toString());
        for (int turn = 0; turn < LAWS; turn++) {
            boolean other = turn % 3 == 0;
            twins.law(other, lawText(1 + random.nextInt(3)));
            twins.compareFewest(other);
            twins.compareFewest(!other);
        }
    }

    private String lawText(int sentences) {
        StringBuilder text = new StringBuilder();
        for (int k = 0; k < sentences; k++) {
            text.append(literal());
            if (random.nextInt(4) > 0) {
                text.append(new String[] {" and ", " or ", " unless "}[random.nextInt(3)]).append(literal());
            }
            text.append('.');
        }
        return text.toString();
    }

    private String literal() {
        return (random.nextInt(3) == 0 ? "not " : "") + spoken.charAt(random.nextInt(spoken.length()));
    }
}
