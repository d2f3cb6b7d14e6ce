/** What tests of single calls share: an object, texts told to it, the answers and faults that are due. */
abstract class Court {
    static final int NONE = HundredWords.NONE;
    static final int AND = 18;
    static final int OR = 19;
    static final int NOT = 20;
    static final int UNLESS = 21;
    static final int STOP = 22;
    static final int SIGNS = 23;
    /** Far from all numbers that can be, and the first below 0. */
    static final int[] FAR = {Integer.MIN_VALUE, Integer.MIN_VALUE + 1, -100, -2, 1 << 16, Integer.MAX_VALUE};

    final Bench bench = new Bench();
    HundredWords x = new HundredWords();
    private String spoken = "";

    /** A statement again and again, with another letter for % each time. */
    static String row(String statement, int count) {
        StringBuilder text = new StringBuilder();
        for (int k = 0; k < count; k++) {
            text.append(statement.replace('%', (char) ('a' + k)));
        }
        return text.toString();
    }

    /** Of who a to d, of what e to h, of when i to l. */
    static String tongueOf(int whos, int whats, int whens) {
        StringBuilder text = new StringBuilder();
        for (int k = 0; k < 12; k++) {
            int count = k < 4 ? whos : k < 8 ? whats : whens;
            if (k % 4 < count) {
                text.append(new String[] {"who ", "what ", "when "}[k / 4]).append((char) ('a' + k)).append(';');
            }
        }
        return text.toString();
    }

    void due(String call, long got, long want) {
        bench.due(call, got, want);
    }

    void due(String call, boolean got, boolean want) {
        bench.due(call, got, want);
    }

    /** A new object that speaks a tongue. */
    void speak(String text) {
        spoken = text;
        x = new HundredWords();
        Bench.tell(x, text);
        due("tongue() of " + text, x.tongue(), text.chars().filter(c -> c == ';').count());
    }

    int tongue(String text) {
        Bench.tell(x, text);
        return x.tongue();
    }

    int law(String text) {
        Bench.tell(x, text);
        return x.law(false);
    }

    int other(String text) {
        Bench.tell(x, text);
        return x.law(true);
    }

    long ask(String text) {
        Bench.tell(x, text);
        return x.ask();
    }

    boolean restored(int... bytes) {
        StringBuilder text = new StringBuilder();
        for (int octet : bytes) {
            text.append((char) octet);
        }
        Bench.tell(x, text.toString());
        return x.restore();
    }

    static int sealOf(int... bytes) {
        int seal = 101;
        for (int octet : bytes) {
            seal = (5 * seal + octet) % 239;
        }
        return seal;
    }

    void dueSigns(String when, boolean other, int... signs) {
        due(when + ": signs", x.sign(other, NONE), signs.length);
        for (int k = 0; k < signs.length; k++) {
            due(when + ": sign " + k, x.sign(other, k), signs[k]);
        }
    }

    /** call: t tongue(), l law(false), o law(true), a ask(); by a new object that speaks what was spoken last. */
    private long read(char call, String text) {
        x = new HundredWords();
        if (call != 't') {
            Bench.tell(x, spoken);
            x.tongue();
        }
        Bench.tell(x, text);
        return call == 't' ? x.tongue() : call == 'a' ? x.ask() : x.law(call == 'o');
    }

    /** In the text ^ marks the place of the fault that is due; the texts themselves have none. */
    void wrong(char call, int fault, String marked) {
        int place = marked.indexOf('^');
        wrongAt(call, fault, place, marked.substring(0, place) + marked.substring(place + 1));
    }

    void wrongAt(char call, int fault, int place, String text) {
        String name = call + " of \"" + text + "\"";
        due(name, read(call, text), call == 'a' ? HundredWords.NOTHING : NONE);
        due(name + " fault(0)", x.fault(0), fault);
        due(name + " fault(1)", x.fault(1), place);
        due(name + " status(1)", x.status(1), call == 'a' ? 0 : 1);
        dueEmptyTape(name);
    }

    void fine(char call, String text, long answer) {
        String name = call + " of \"" + text + "\"";
        due(name, read(call, text), answer);
        due(name + " fault(0)", x.fault(0), 0);
        due(name + " fault(1)", x.fault(1), NONE);
        due(name + " status(1)", x.status(1), 0);
        dueEmptyTape(name);
    }

    private void dueEmptyTape(String name) {
        due(name + " the tape went", x.feed(0, 0, 0, 0, 0), 20);
        x.end(0);
    }

    /** A tongue that is fine, which is spoken from now on. */
    void fineTongue(String text, int statements) {
        spoken = text;
        fine('t', text, statements);
    }

    void wrongEach(char call, int fault, String... texts) {
        for (String text : texts) {
            wrong(call, fault, text);
        }
    }

    /** Of THE LAW and of THE OTHER LAW alike. */
    void wrongLaw(int fault, String marked) {
        wrong('l', fault, marked);
        wrong('o', fault, marked);
    }

    void fineLaw(String text, int words) {
        fine('l', text, words);
        fine('o', text, words);
    }

    /** What can be asked without a change, in one text: all of it must stay where a call is refused. */
    String told() {
        StringBuilder all = new StringBuilder();
        for (int what = 0; what <= 10; what++) {
            all.append(x.has(what)).append(' ');
        }
        for (int sign = 0; sign < 25; sign++) {
            all.append(x.letter(sign, 0)).append(' ');
        }
        tellLaw(all, false);
        tellLaw(all, true);
        for (int what = 0; what < 3; what++) {
            all.append(x.fitting(what)).append(' ').append(x.changes(what)).append(' ');
            all.append(x.octet(what)).append(' ');
        }
        all.append(x.judged()).append(' ').append(x.rest()).append(' ').append(x.shorts());
        return all.toString();
    }

    private void tellLaw(StringBuilder all, boolean other) {
        for (int k = -1; k < 12; k++) {
            all.append(x.sign(other, k)).append(' ');
        }
        for (int what = 0; what < 5; what++) {
            all.append(x.size(other, what)).append(' ').append(x.worth(other, what)).append(' ');
        }
        all.append(x.votes(other)).append(' ').append(x.fewest(other, 2)).append(" | ");
    }

    void dueStays(String when, String before) {
        due("all stays behind " + when + ": " + before + " - " + told(), told().equals(before), true);
    }
}
