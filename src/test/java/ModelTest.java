import java.util.ArrayList;
import java.util.List;
import java.util.Random;

/** Long runs of calls, chosen by fixed seeds, on the class and on the model: every answer must be the same. */
public final class ModelTest {
    private static final String[][] POOLS = {
        {"lord", "serf", "a", "monk"}, {"geese", "murder", "b", "theft"}, {"day", "night", "c", "feast"},
        {"peer", "abcdef", "x", "y", "z", "likes"}, {"folk", "lords", "p", "q", "crown"},
    };
    private static final String[] NOISE = {
        "who", "what", "when", "like", "limit", "party", "votes", "wish", "peace", "judged", "forbid", "free", "any",
        "worth", "and", "or", "not", "unless", "lord", "geese", "day", "peer", "folk", "abcdefg", "zzz", "0", "7",
        "12345", ";", ".", "first", "total", "most", "all", "case", "law", "other", "borne", "min", "max", "(", ")",
        "[", "]", ",", "+", "-", "*", "/", "<", ">", "=", "\u00ff", "B",
    };
    private static final int[] FAR = {Integer.MIN_VALUE, -47, -2, -1, 60, 61, 64, 1752, 4096, Integer.MAX_VALUE};
    private static final String ODD = "abz019 .;()[]<>=+-*/,\nAZ{`@:~";

    private final Random random;
    private final Twins twins;
    private final HundredWords words;
    private final Model model;

    private ModelTest(Bench bench, int seed) {
        random = new Random(seed);
        twins = new Twins(bench, "seed " + seed);
        words = twins.words;
        model = twins.model;
    }

    public static void main(String[] args) {
        Bench bench = new Bench();
        int runs = args.length > 0 ? Integer.parseInt(args[0]) : 150;
        int first = args.length > 1 ? Integer.parseInt(args[1]) : 0;
        for (int seed = first; seed < first + runs; seed++) {
            new ModelTest(bench, seed).run();
        }
        bench.finish("ModelTest");
    }

    private void run() {
        int rounds = 1 + random.nextInt(3);
        for (int round = 0; round < rounds; round++) {
            compareTongue();
            for (int again = 0; again < 6 && model.has(9) == 0; again++) {
                compareTongue();
            }
            int calls = 20 + random.nextInt(60);
            for (int call = 0; call < calls; call++) {
                compareCall();
            }
        }
        compareState();
    }

    private void due(String call, long got, long want) {
        twins.due(call, got, want);
    }

    private void due(String call, boolean got, boolean want) {
        twins.due(call, got, want);
    }

    private int below(int bound) {
        return random.nextInt(bound);
    }

    private boolean oneIn(int bound) {
        return random.nextInt(bound) == 0;
    }

    // ---- texts

    /** Now and then a text is spoilt. */
    private String spoilt(String text, int rarity) {
        StringBuilder odd = new StringBuilder(text);
        while (oneIn(rarity)) {
            int at = below(odd.length() + 1);
            char c = ODD.charAt(below(ODD.length()));
            if (at < odd.length() && oneIn(2)) {
                odd.deleteCharAt(at);
            } else if (at < odd.length() && oneIn(2)) {
                odd.setCharAt(at, c);
            } else {
                odd.insert(at, c);
            }
        }
        return odd.toString();
    }

    private String blank() {
        return oneIn(12) ? "\n " : " ";
    }

    private void compareTongue() {
        twins.tongue(spoilt(tongueText(), 6));
        compareState();
    }

    private String tongueText() {
        List<String> statements = new ArrayList<>();
        int[] counts = {below(5), below(5), below(5), below(7), below(6)};
        for (int sort = 0; sort < 3; sort++) {
            counts[sort] = oneIn(15) ? 0 : 1 + below(oneIn(3) ? 4 : 2);
            for (int k = 0; k < counts[sort]; k++) {
                statements.add(List.of("who", "what", "when").get(sort) + blank() + POOLS[sort][k]);
            }
        }
        for (int k = 0; k < counts[3]; k++) {
            statements.add("like " + POOLS[3][k] + blank() + someWord(counts, k));
        }
        for (int k = 0; k < counts[4]; k++) {
            statements.add("party " + POOLS[4][k] + " votes" + blank() + (oneIn(60) ? 10 : 1 + below(9)));
        }
        if (oneIn(2)) {
            statements.add("limit " + (oneIn(2) ? 1 + below(40) : 9 + below(10)));
        }
        for (int k = below(oneIn(4) ? 18 : 7); k > 0 && counts[4] > 0; k--) {
            statements.add("wish " + POOLS[4][below(counts[4])] + how() + cases(counts) + " worth " + (1 + below(99)));
        }
        for (int k = oneIn(3) ? below(3) : 0; k > 0; k--) {
            statements.add("peace" + how() + cases(counts));
        }
        for (int k = below(4); k > 0; k--) {
            statements.add("judged" + how() + cases(counts));
        }
        StringBuilder text = new StringBuilder();
        for (String statement : statements) {
            text.append(statement).append(oneIn(3) ? ";" : "; ");
        }
        return text.toString();
    }

    private String someWord(int[] counts, int likes) {
        int sort = below(4);
        int count = sort == 3 ? likes : counts[sort];
        return count == 0 ? POOLS[0][0] : POOLS[sort][below(count)];
    }

    private String how() {
        return oneIn(2) ? " forbid " : " free ";
    }

    private String cases(int[] counts) {
        StringBuilder text = new StringBuilder();
        for (int sort = 0; sort < 3; sort++) {
            boolean any = counts[sort] == 0 || oneIn(3);
            text.append(sort > 0 ? " " : "").append(any ? "any" : POOLS[sort][below(counts[sort])]);
        }
        return text.toString();
    }

    private String lawText() {
        int[] counts = {model.has(0), model.has(1), model.has(2)};
        StringBuilder text = new StringBuilder();
        int sentences = oneIn(10) ? below(12) : 1 + below(3);
        for (int k = 0; k < sentences; k++) {
            appendTerms(text, counts);
            if (oneIn(3)) {
                text.append(" unless").append(blank());
                appendTerms(text, counts);
            }
            text.append(oneIn(2) ? "." : ". ");
        }
        return text.toString();
    }

    private void appendTerms(StringBuilder text, int[] counts) {
        int terms = 1 + below(oneIn(5) ? 5 : 2);
        for (int k = 0; k < terms; k++) {
            text.append(k == 0 ? "" : oneIn(2) ? " and " : " or ");
            while (oneIn(4)) {
                text.append("not ");
            }
            text.append(someWord(counts, model.has(3)));
        }
    }

    /** Tokens without any sense, with and without blanks. */
    private void compareNoise() {
        StringBuilder text = new StringBuilder();
        for (int k = below(12); k > 0; k--) {
            text.append(NOISE[below(NOISE.length)]).append(oneIn(3) ? "" : " ");
        }
        twins.tell(text.toString());
        int call = below(4);
        long got = call == 0 ? words.tongue() : call == 1 ? words.ask() : words.law(call == 2);
        long want = call == 0 ? model.tongue() : call == 1 ? model.ask() : model.law(call == 2);
        due("noise " + call + " of " + text, got, want);
        twins.compareFault(text.toString());
    }

    // ---- questions

    private void compareQuestion() {
        int kind = below(6);
        int depth = oneIn(4) ? 9 : below(5);
        String text = List.of("first ", "last ", "often ", "total ", "most ", "least ").get(kind)
            + (kind < 3 ? testText(depth) : sumText(depth));
        text = spoilt(text, 5);
        if (text.length() <= 1600) {
            twins.ask(text);
        }
    }

    private String testText(int depth) {
        String text = factText(depth);
        while (oneIn(3)) {
            text += (oneIn(2) ? " and " : " or ") + factText(depth);
        }
        return text;
    }

    private String factText(int depth) {
        if (depth > 0 && oneIn(3)) {
            return "[" + testText(depth - 1) + "]";
        }
        if (depth > 0 && oneIn(3)) {
            return "not " + factText(depth - 1);
        }
        return oneIn(8) ? "all" : sumText(depth) + "<>=".charAt(below(3)) + sumText(depth);
    }

    private String sumText(int depth) {
        String text = partText(depth);
        while (oneIn(2)) {
            text += " " + "+-*/".charAt(below(4)) + (oneIn(2) ? " " : "") + partText(depth);
        }
        return text;
    }

    private String partText(int depth) {
        if (depth > 0 && oneIn(3)) {
            return "(" + sumText(depth - 1) + ")";
        }
        if (depth > 0 && oneIn(4)) {
            return (oneIn(2) ? "min (" : "max(") + sumText(depth - 1) + "," + sumText(depth - 1) + ")";
        }
        if (depth > 0 && oneIn(4)) {
            return "borne " + partText(depth - 1);
        }
        String[] plain = {"case", "who", "what", "when", "law", "other"};
        return oneIn(2) ? plain[below(6)] : "" + below(oneIn(5) ? 10000 : 9);
    }

    // ---- calls

    private void compareCall() {
        int place = below(Math.max(1, model.sign(false, -1)) + 2) - 1;
        int sign = below(25) - 1;
        switch (below(26)) {
            case 0, 1 -> twins.law(false, spoilt(lawText(), 8));
            case 2, 3 -> twins.law(true, spoilt(lawText(), 8));
            case 4 -> twins.edit(0, place, sign);
            case 5 -> twins.edit(0, place, 20);
            case 6 -> twins.edit(1, place, 0);
            case 7, 8 -> twins.edit(2, place, sign);
            case 9 -> due("undo()", words.undo(), model.undo());
            case 10 -> compareChanges();
            case 11 -> twins.compareFewest(oneIn(2));
            case 12 -> compareWay();
            case 13 -> compareParties();
            case 14 -> due("spring", words.spring(sign), model.spring(sign));
            case 15 -> compareFitting();
            case 16 -> due("seed", words.seed(sign * 7919), model.seed(sign * 7919));
            case 17 -> due("stroke()", words.stroke(), model.stroke());
            case 18, 19, 20 -> compareQuestion();
            case 21 -> compareImage();
            case 22 -> compareNearLaw();
            case 23 -> compareNoise();
            case 24 -> compareFar(FAR[below(FAR.length)]);
            default -> compareBearing();
        }
        if (oneIn(4)) {
            compareState();
        }
    }

    private void compareChanges() {
        for (int what = -1; what < 4; what++) {
            due("changes(" + what + ")", words.changes(what), model.changes(what));
        }
    }

    private void compareWay() {
        if (model.sign(false, -1) < 14 && model.sign(true, -1) < 14) {
            twins.compareWay("");
        }
    }

    /** THE OTHER LAW becomes like THE LAW, which then goes some steps away, so that ways are short. */
    private void compareNearLaw() {
        int size = model.sign(false, -1);
        twins.makeAlike();
        int steps = 1 + below(5);
        for (int tries = 0; tries < 120 && steps > 0; tries++) {
            if (twins.edit(below(3), below(size + 2), oneIn(3) ? 20 : below(23)) >= 0) {
                steps--;
            }
        }
        compareWay();
    }

    private void compareImage() {
        int length = words.image();
        due("image()", length, model.image());
        StringBuilder bytes = new StringBuilder();
        for (int k = -1; k <= length; k++) {
            due("octet(" + k + ")", words.octet(k), model.octet(k));
            if (k >= 0 && k < length) {
                bytes.append((char) words.octet(k));
            }
        }
        if (oneIn(2)) {
            twins.restore(spoilt(bytes.toString(), 2));
        }
    }

    private void compareParties() {
        for (int party = -1; party <= 5; party++) {
            due("worth(false, " + party + ")", words.worth(false, party), model.worth(false, party));
            due("worth(true, " + party + ")", words.worth(true, party), model.worth(true, party));
        }
        due("votes(true)", words.votes(true), model.votes(true));
        due("votes(false)", words.votes(false), model.votes(false));
        due("rest()", words.rest(), model.rest());
    }

    private void compareFitting() {
        for (int what = -1; what < 4; what++) {
            due("fitting(" + what + ")", words.fitting(what), model.fitting(what));
            int sentence = below(model.shorts() + 2) - 1;
            due("brief(" + sentence + ", " + what + ")", words.brief(sentence, what), model.brief(sentence, what));
        }
        due("shorts()", words.shorts(), model.shorts());
    }

    private void compareBearing() {
        int cases = model.has(9);
        for (int turn = 0; turn < 8; turn++) {
            int number = below(cases + 2) - 1;
            for (int k = -1; k < 3; k++) {
                due("borne(" + number + ", " + k + ")", words.borne(number, k), model.borne(number, k));
                due("led(" + number + ", " + k + ")", words.led(number, k), model.led(number, k));
            }
        }
        for (int place = -1; place <= model.sign(false, -1); place++) {
            due("price(" + place + ")", words.price(place), model.price(place));
        }
    }

    /** Numbers that are far from any that can be. */
    private void compareFar(int far) {
        String name = " of " + far;
        due("has" + name, words.has(far), model.has(far));
        due("fault" + name, words.fault(far), model.fault(far));
        due("letter" + name, words.letter(far, 0), model.letter(far, 0));
        due("letter k" + name, words.letter(0, far), model.letter(0, far));
        due("sign" + name, words.sign(false, far), model.sign(false, far));
        due("size" + name, words.size(true, far), model.size(true, far));
        due("forbids" + name, words.forbids(false, far), model.forbids(false, far));
        due("borne" + name, words.borne(far, 0), model.borne(far, 0));
        due("borne k" + name, words.borne(0, far), model.borne(0, far));
        due("led" + name, words.led(far, 0), model.led(far, 0));
        due("led k" + name, words.led(0, far), model.led(0, far));
        due("price" + name, words.price(far), model.price(far));
        due("changes" + name, words.changes(far), model.changes(far));
        due("fewest" + name, words.fewest(false, far), model.fewest(false, far));
        due("brief" + name, words.brief(far, 0), model.brief(far, 0));
        due("brief what" + name, words.brief(0, far), model.brief(0, far));
        due("hole" + name, words.hole(true, far), model.hole(true, far));
        due("worth" + name, words.worth(false, far), model.worth(false, far));
        due("spring" + name, words.spring(far), model.spring(far));
        due("fitting" + name, words.fitting(far), model.fitting(far));
        due("seed" + name, words.seed(far), model.seed(far));
        due("octet" + name, words.octet(far), model.octet(far));
        due("status" + name, words.status(far), model.status(far));
        due("end" + name, words.end(far), model.end(far));
        for (int kind = 0; kind < 3; kind++) {
            twins.edit(kind, far, 0);
            twins.edit(kind, 0, kind == 1 ? 0 : far);
        }
    }

    private void compareState() {
        for (int what = -1; what < 12; what++) {
            due("has(" + what + ")", words.has(what), model.has(what));
            due("status(" + what + ")", words.status(what), model.status(what));
        }
        for (int sign = -1; sign < 27; sign++) {
            int k = below(8) - 1;
            due("letter(" + sign + ", " + k + ")", words.letter(sign, k), model.letter(sign, k));
        }
        for (int turn = 0; turn < 2; turn++) {
            compareOf(turn == 1);
        }
        due("parts()", words.parts(), model.parts());
        due("judged()", words.judged(), model.judged());
    }

    private void compareOf(boolean other) {
        for (int k = -2; k <= model.sign(other, -1); k++) {
            due("sign(" + other + ", " + k + ")", words.sign(other, k), model.sign(other, k));
        }
        for (int what = -1; what < 6; what++) {
            due("size(" + other + ", " + what + ")", words.size(other, what), model.size(other, what));
        }
        for (int number = -1; number <= model.has(9); number++) {
            due("forbids(" + other + ", " + number + ")", words.forbids(other, number), model.forbids(other, number));
        }
        for (int k = -1; k < 4; k++) {
            due("hole(" + other + ", " + k + ")", words.hole(other, k), model.hole(other, k));
        }
    }
}
