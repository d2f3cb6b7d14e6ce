/** An object of the class and the model, told the same; each answer of the one must be the other's. */
final class Twins {
    final HundredWords words = new HundredWords();
    final Model model = new Model();
    private final Bench bench;
    private final String name;

    Twins(Bench bench, String name) {
        this.bench = bench;
        this.name = name + " ";
    }

    void due(String call, long got, long want) {
        bench.due(name + call, got, want);
    }

    void due(String call, boolean got, boolean want) {
        bench.due(name + call, got, want);
    }

    /** The tape of both is empty. */
    void tell(String text) {
        for (int first = 0; first < text.length(); first += 20) {
            int[] numbers = new int[5];
            for (int k = 0; k < 20; k++) {
                int at = first + k;
                numbers[k / 4] = numbers[k / 4] << 8 | (at < text.length() ? text.charAt(at) : 32);
            }
            due("feed", words.feed(numbers[0], numbers[1], numbers[2], numbers[3], numbers[4]), model.feed(numbers));
        }
        due("end", words.end(text.length()), model.end(text.length()));
    }

    void tongue(String text) {
        tell(text);
        due("tongue() of " + text, words.tongue(), model.tongue());
        compareFault(text);
    }

    void law(boolean other, String text) {
        tell(text);
        due("law(" + other + ") of " + text, words.law(other), model.law(other));
        compareFault(text);
    }

    void ask(String text) {
        tell(text);
        due("ask() of " + text, words.ask(), model.ask());
        compareFault(text);
    }

    void restore(String bytes) {
        tell(bytes);
        due("restore()", words.restore(), model.restore());
    }

    /** THE OTHER LAW becomes like THE LAW, and nothing can be undone. */
    void makeAlike() {
        StringBuilder bytes = new StringBuilder();
        int size = model.sign(false, -1);
        bytes.append((char) size);
        for (int k = 0; k < size; k++) {
            bytes.append((char) model.sign(false, k));
        }
        String both = bytes.toString() + bytes;
        int seal = 101;
        for (int k = 0; k < both.length(); k++) {
            seal = (5 * seal + both.charAt(k)) % 239;
        }
        restore(both + (char) seal);
    }

    /** kind: 0 put, 1 strike, 2 swap. */
    int edit(int kind, int place, int sign) {
        int got = kind == 0 ? words.put(place, sign) : kind == 1 ? words.strike(place) : words.swap(place, sign);
        due("edit " + kind + " at " + place + " of " + sign, got, model.edit(kind, place, sign));
        return got;
    }

    void compareFault(String text) {
        for (int what = -1; what < 3; what++) {
            due("fault(" + what + ") of " + text, words.fault(what), model.fault(what));
        }
    }

    void compareFewest(boolean other) {
        for (int what = -1; what < 5; what++) {
            due("fewest(" + other + ", " + what + ")", words.fewest(other, what), model.fewest(other, what));
        }
    }

    void compareWay(String told) {
        due("way() " + told, words.way(), model.way());
    }
}
