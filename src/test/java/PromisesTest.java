import java.util.Arrays;

/** Each promise of the document: ordinary inputs, the edges, wrong inputs; the answers were worked out by hand. */
public final class PromisesTest extends Court {
    /** Cases: 0 a c e, 1 b c e, 2 a d e, 3 b d e. */
    private static final String SMALL = "who a; who b; what c; what d; when e;";
    private static final String PARTIES = SMALL + "party p votes 3; party q votes 2; wish p forbid a any any worth 5;"
        + "wish q free a c any worth 4; wish q forbid b any any worth 1;";

    public static void main(String[] args) {
        PromisesTest test = new PromisesTest();
        test.newObject();
        test.feed();
        test.end();
        test.tongue();
        test.law();
        test.fault();
        test.has();
        test.letter();
        test.sign();
        test.size();
        test.forbids();
        test.borne();
        test.led();
        test.price();
        test.put();
        test.strike();
        test.swap();
        test.undo();
        test.changes();
        test.fewest();
        test.fewestEdges();
        test.shorts();
        test.brief();
        test.way();
        test.wayWithPeace();
        test.hole();
        test.parts();
        test.worth();
        test.votes();
        test.rest();
        test.spring();
        test.fitting();
        test.judged();
        test.seed();
        test.stroke();
        test.ask();
        test.askSums();
        test.image();
        test.octet();
        test.restore();
        test.restoreEdges();
        test.restoreLong();
        test.status();
        test.bench.finish("PromisesTest");
    }

    // ---- helpers

    private void dueFewest(String law, int words, int sentences, int first, int second) {
        law(law);
        due("fewest(false, 0) of " + law, x.fewest(false, 0), words);
        due("fewest(false, 1) of " + law, x.fewest(false, 1), sentences);
        due("fewest(false, 2) of " + law, x.fewest(false, 2), first);
        due("fewest(false, 3) of " + law, x.fewest(false, 3), second);
    }

    private void dueWay(String from, String to, int steps) {
        due("law of " + from, law(from) >= 0, true);
        due("other law of " + to, other(to) >= 0, true);
        due("way() from " + from + " to " + to, x.way(), steps);
    }

    // ---- promises 1 to 8: the object, texts, the tongue

    private void newObject() {
        due("NONE", HundredWords.NONE, -1);
        due("NOTHING", HundredWords.NOTHING, -1000000000000000L);
        for (int what = 0; what <= 10; what++) {
            due("new has(" + what + ")", x.has(what), what == 4 ? 40 : 0);
        }
        for (int what = 0; what < 4; what++) {
            due("new size(false, " + what + ")", x.size(false, what), 0);
            due("new size(true, " + what + ")", x.size(true, what), 0);
        }
        due("new size(false, 4)", x.size(false, 4), 1);
        dueSigns("new", false);
        dueSigns("new", true);
        due("new way()", x.way(), 0);
        due("new parts()", x.parts(), NONE);
        due("new rest()", x.rest(), 1);
        due("new shorts()", x.shorts(), 0);
        due("new octet(0)", x.octet(0), NONE);
        for (int what = 0; what < 6; what++) {
            due("new status(" + what + ")", x.status(what), 0);
        }
    }

    private void feed() {
        x = new HundredWords();
        // "who a; what b;when c", the highest byte of each number first.
        due("feed", x.feed(0x77686f20, 0x613b7768, 0x61742062, 0x3b776865, 0x6e20633b), 20);
        due("tongue()", x.tongue(), 3);
        due("letter(8, 0)", x.letter(8, 0), 3);
        due("feed of high bytes", x.feed(-1, 0x80000000, 0, 0, 0), 20);
        due("end(1)", x.end(1), true);
        due("law of byte 255", x.law(false), NONE);
        due("its place", x.fault(1), 0);
        for (int k = 1; k <= 80; k++) {
            due("feed " + k, x.feed(0x20202020, 0x0a0a0a0a, 0x20202020, 0x20202020, 0x20202020), 20 * k);
        }
        due("feed 81", x.feed(0, 0, 0, 0, 0), NONE);
        due("status(0)", x.status(0), 1);
        due("end(1581)", x.end(1581), true);
        due("feed to 1601", x.feed(0, 0, 0, 0, 0), NONE);
        due("status(0)", x.status(0), 2);
        due("end(1580)", x.end(1580), true);
        due("feed to 1600", x.feed(0x20202020, 0x20202020, 0x20202020, 0x20202020, 0x20202020), 1600);
        due("tongue() of blanks", x.tongue(), 0);
        due("the tape went", x.feed(0, 0, 0, 0, 0), 20);
    }

    private void end() {
        x = new HundredWords();
        due("end(0)", x.end(0), true);
        due("end(1) of nothing", x.end(1), false);
        due("end(-1)", x.end(-1), false);
        due("status(0)", x.status(0), 2);
        x.feed(0x6c696d69, 0x7420353b, 0, 0, 0);
        due("end(21)", x.end(21), false);
        due("end(20)", x.end(20), true);
        due("end(8)", x.end(8), true);
        due("end(9)", x.end(9), false);
        due("end(NONE)", x.end(Integer.MIN_VALUE), false);
        due("end(most)", x.end(Integer.MAX_VALUE), false);
        due("status(0)", x.status(0), 6);
        due("feed goes on behind", x.feed(0x6c696d69, 0x7420363b, 0x20202020, 0x20202020, 0x20202020), 28);
        due("tongue()", x.tongue(), 2);
        due("has(4)", x.has(4), 6);
    }

    private void tongue() {
        speak(SMALL);
        due("has(9)", x.has(9), 4);
        law("a.");
        other("b.");
        x.seed(7);
        Bench.tell(x, "who z; who");
        due("tongue() with a fault", x.tongue(), NONE);
        due("status(1)", x.status(1), 1);
        due("all stays: has(1)", x.has(1), 2);
        due("all stays: letter(0, 0)", x.letter(0, 0), 1);
        dueSigns("all stays", false, 0, STOP);
        dueSigns("all stays", true, 1, STOP);
        due("all stays: has(10)", x.has(10), 1);
        due("the tape went", x.end(1), false);
        Bench.tell(x, "who z; what y; when x; limit 5; limit 7;");
        due("tongue()", x.tongue(), 5);
        due("the last limit counts", x.has(4), 7);
        dueSigns("a new tongue", false);
        dueSigns("a new tongue", true);
        due("nothing can be undone", x.undo(), false);
        law("not not z.");
        due("the seed stays: stroke()", x.stroke(), 0);
        Bench.tell(x, "who a; what c; when e; peace forbid a any e; what d;");
        due("tongue() with any ahead of a word", x.tongue(), 5);
        due("any is all words of the whole text", law("a and c."), -2);
        due("any is all words of the whole text", law("a."), 1);
        Bench.tell(x, "");
        due("tongue() of nothing", x.tongue(), 0);
        due("no words", x.has(0), 0);
        due("no limit", x.has(4), 40);
        due("no peace", x.has(7), 0);
        due("no letter", x.letter(0, 0), NONE);
    }

    private void law() {
        speak(SMALL + "like f a; limit 5; peace forbid a c e; peace free b d any;");
        due("law", law("a and c."), 3);
        due("an act", x.has(10), 1);
        due("law that forbids too little", law("b."), -2);
        due("law that forbids too much", law("a. d."), -2);
        due("the empty law", law(""), -2);
        due("fault(0) of -2", x.fault(0), 0);
        due("fault(1) of -2", x.fault(1), NONE);
        due("status(1)", x.status(1), 3);
        due("law with a fault", law("a and"), NONE);
        due("law above the limit", law("a. a. a. a. a. a."), NONE);
        due("status(1)", x.status(1), 5);
        dueSigns("all stays", false, 0, AND, 4, STOP);
        due("the tape went", x.end(1), false);
        due("no act", x.has(10), 1);
        due("the other law may break the peace", other("b. f."), 2);
        due("that is no act", x.has(10), 1);
        dueSigns("the other law", true, 1, STOP, 12, STOP);
        due("the other law with a fault", other("x."), NONE);
        due("status(1)", x.status(1), 6);
        dueSigns("the other law stays", true, 1, STOP, 12, STOP);
        due("law with the same signs", law("a and c."), 3);
        due("it is an act", x.has(10), 2);
        due("like words mean the same", law("f and c."), 3);
        due("the other law empty", other(" \n"), 0);
        dueSigns("the other law empty", true);
        speak(SMALL);
        due("the empty law without a peace", law(""), 0);
        due("it is an act", x.has(10), 1);
    }

    private void fault() {
        speak(SMALL);
        due("fault(0)", x.fault(0), 0);
        due("fault(1)", x.fault(1), NONE);
        law("a and .");
        due("fault(0)", x.fault(0), 1);
        due("fault(1)", x.fault(1), 6);
        due("fault(2)", x.fault(2), NONE);
        due("fault(-1)", x.fault(-1), NONE);
        ask("total case");
        due("fault(0) behind a fine ask()", x.fault(0), 0);
        due("fault(1) behind a fine ask()", x.fault(1), NONE);
        ask("total ((((((( 1");
        due("fault(0) behind ask()", x.fault(0), 4);
        due("fault(1) behind ask()", x.fault(1), 12);
        x.put(0, 0);
        x.image();
        due("fault(0) stays behind other calls", x.fault(0), 4);
        Bench.tell(x, "limit 41;");
        x.tongue();
        due("fault(0) behind tongue()", x.fault(0), 2);
        due("fault(1) behind tongue()", x.fault(1), 6);
    }

    private void has() {
        speak(PARTIES + "like f a; like g f; limit 12; peace free b c e; peace free b d e; judged forbid a c e;");
        int[] wanted = {2, 2, 1, 2, 12, 2, 3, 2, 1, 4, 0, NONE};
        for (int what = 0; what < wanted.length; what++) {
            due("has(" + what + ")", x.has(what), wanted[what]);
        }
        due("has(-1)", x.has(-1), NONE);
        law("a.");
        x.swap(0, 12);
        due("has(10)", x.has(10), 2);
        x.undo();
        due("has(10) behind undo()", x.has(10), 1);
        speak("who a; who b; who c; who d; what e; what f; what g; what h; when i; when j; when k; when l;");
        due("has(9) of most", x.has(9), 64);
        speak("who a; what b;");
        due("has(9) without a when", x.has(9), 0);
    }

    private void letter() {
        speak("who lord; what z; when abcdef; like peer lord; party az votes 1;");
        int[] lord = {12, 15, 18, 4, 0, 0};
        for (int k = 0; k < 6; k++) {
            due("letter(0, " + k + ")", x.letter(0, k), lord[k]);
            due("letter(8, " + k + ")", x.letter(8, k), k + 1);
        }
        due("letter(4, 0)", x.letter(4, 0), 26);
        due("letter(12, 3)", x.letter(12, 3), 18);
        due("letter(20, 0)", x.letter(20, 0), 1);
        due("letter(20, 1)", x.letter(20, 1), 26);
        due("letter(20, 2)", x.letter(20, 2), 0);
        int[] absent = {-1, 1, 3, 5, 9, 13, 17, 18, 19, 21, 22, 24, 25, 1000, Integer.MAX_VALUE, Integer.MIN_VALUE};
        for (int sign : absent) {
            due("letter(" + sign + ", 0)", x.letter(sign, 0), NONE);
        }
        due("letter(0, -1)", x.letter(0, -1), NONE);
        due("letter(0, 6)", x.letter(0, 6), NONE);
    }

    // ---- promises 9 to 14: the laws

    private void sign() {
        speak(SMALL + "like f a;");
        law("not a or b and c unless f. e.");
        dueSigns("the law", false, NOT, 0, OR, 1, AND, 4, UNLESS, 12, STOP, 8, STOP);
        due("sign(false, 11)", x.sign(false, 11), NONE);
        due("sign(false, -2)", x.sign(false, -2), NONE);
        due("sign(true, 0)", x.sign(true, 0), NONE);
        other("d.");
        dueSigns("the other law", true, 5, STOP);
        due("sign(true, 2)", x.sign(true, 2), NONE);
    }

    private void size() {
        speak(SMALL + "peace forbid a c e;");
        due("peace is not kept by the empty law", x.size(false, 4), 0);
        law("a. a and c. c.");
        int[] wanted = {5, 3, 3, 1, 1, NONE};
        for (int what = 0; what < wanted.length; what++) {
            due("size(false, " + what + ")", x.size(false, what), wanted[what]);
        }
        due("size(false, -1)", x.size(false, -1), NONE);
        other("b. b. not e.");
        int[] others = {4, 3, 2, 3, NONE, NONE};
        for (int what = 0; what < others.length; what++) {
            due("size(true, " + what + ")", x.size(true, what), others[what]);
        }
    }

    /** From the left on: (a or b) and c; a or (b and c) would forbid case 2, too. */
    private void forbids() {
        speak(SMALL + "like f a;");
        law("a or b and c.");
        int[] wanted = {1, 1, 0, 0};
        for (int number = 0; number < 4; number++) {
            due("forbids(false, " + number + ")", x.forbids(false, number), wanted[number]);
            due("forbids(true, " + number + ")", x.forbids(true, number), 0);
        }
        other("not not f unless not d. b and d.");
        int[] others = {0, 0, 1, 1};
        for (int number = 0; number < 4; number++) {
            due("forbids(true, " + number + ")", x.forbids(true, number), others[number]);
        }
        due("forbids(false, 4)", x.forbids(false, 4), NONE);
        due("forbids(false, -1)", x.forbids(false, -1), NONE);
        due("forbids(true, 64)", x.forbids(true, 64), NONE);
        law("e unless c or d and a.");
        int[] unless = {0, 1, 0, 1};
        for (int number = 0; number < 4; number++) {
            due("unless: forbids(false, " + number + ")", x.forbids(false, number), unless[number]);
        }
        speak("who a; what c;");
        law("a.");
        due("forbids without cases", x.forbids(false, 0), NONE);
        law("not a.");
        due("nothing is forbidden without cases", x.size(false, 2), 0);
        speak("who a; who b; who c; who d; what e; what f; what g; what h; when i; when j; when k; when l;");
        law("d and h and l.");
        due("forbids(false, 63)", x.forbids(false, 63), 1);
        due("forbids(false, 62)", x.forbids(false, 62), 0);
        due("size(false, 2)", x.size(false, 2), 1);
    }

    private void borne() {
        speak(SMALL);
        law("a. d. c. a and c.");
        due("borne(0, 0)", x.borne(0, 0), 0);
        due("borne(0, 1)", x.borne(0, 1), 2);
        due("borne(0, 2)", x.borne(0, 2), 3);
        due("borne(0, 3)", x.borne(0, 3), NONE);
        due("borne(3, 0)", x.borne(3, 0), 1);
        due("borne(3, 1)", x.borne(3, 1), NONE);
        due("borne(0, -1)", x.borne(0, -1), NONE);
        due("borne(4, 0)", x.borne(4, 0), NONE);
        due("borne(-1, 0)", x.borne(-1, 0), NONE);
        law("a.");
        due("borne of a free case", x.borne(1, 0), NONE);
    }

    private void led() {
        speak(SMALL + "peace forbid a c e;");
        law("not not a.");
        due("led(0, 0)", x.led(0, 0), 0);
        due("led(0, 1)", x.led(0, 1), 1);
        due("led(0, 2)", x.led(0, 2), NONE);
        due("led(0, -1)", x.led(0, -1), NONE);
        due("led of a free case", x.led(1, 0), NONE);
        due("led(4, 0)", x.led(4, 0), NONE);
        due("led(-1, 0)", x.led(-1, 0), NONE);
        law("a. not d. b and not c.");
        due("another sentence bears it, too", x.led(0, 0), NONE);
        due("led(1, 0)", x.led(1, 0), 2);
        due("led(3, 0)", x.led(3, 0), 7);
        due("led(3, 1)", x.led(3, 1), NONE);
    }

    private void price() {
        speak(SMALL + "peace forbid a c e;");
        law("not not a.");
        int[] wanted = {4, 4, NONE, NONE, NONE};
        for (int place = 0; place < wanted.length; place++) {
            due("price(" + place + ")", x.price(place), wanted[place]);
        }
        due("price(-1)", x.price(-1), NONE);
        due("price(most)", x.price(Integer.MAX_VALUE), NONE);
        law("a and not d.");
        due("price(2)", x.price(2), 2);
        law("a or not e.");
        due("price(2) by which two more are forbidden", x.price(2), 2);
    }

    // ---- promises 15 to 19: changes

    private void put() {
        speak(SMALL + "limit 4; peace free b d e;");
        law("a and c.");
        due("put(2, not)", x.put(2, NOT), 4);
        dueSigns("put", false, 0, AND, NOT, 4, STOP);
        due("an act", x.has(10), 2);
        due("above the limit", x.put(2, NOT), NONE);
        law("a.");
        due("put that breaks the peace", x.put(0, NOT), NONE);
        due("two words", x.put(0, 0), NONE);
        due("two stops", x.put(2, STOP), NONE);
        due("a stop alone", x.put(0, STOP), NONE);
        due("put(-1, not)", x.put(-1, NOT), NONE);
        due("put(3, not)", x.put(3, NOT), NONE);
        due("put of no such word", x.put(0, 2), NONE);
        due("put of sign -1", x.put(0, -1), NONE);
        due("put of sign 23", x.put(0, 23), NONE);
        due("status(2)", x.status(2), 10);
        dueSigns("all stays", false, 0, STOP);
        speak("who a; what c; when e;");
        law("a.".repeat(30));
        due("no 61st sign", x.put(0, NOT), NONE);
        law("a.".repeat(28) + "not a.");
        due("the 60th sign", x.put(0, NOT), 31);
        due("the 61st sign", x.put(0, NOT), NONE);
    }

    private void strike() {
        speak(SMALL + "peace forbid a c e;");
        law("not not not not a.");
        due("strike that breaks the peace", x.strike(0), NONE);
        speak(SMALL);
        law("a and not c.");
        due("strike(2)", x.strike(2), 3);
        dueSigns("strike", false, 0, AND, 4, STOP);
        due("strike of a word", x.strike(0), NONE);
        due("strike of a stop", x.strike(3), NONE);
        due("strike(4)", x.strike(4), NONE);
        due("strike(-1)", x.strike(-1), NONE);
        due("status(2)", x.status(2), 4);
        due("has(10)", x.has(10), 2);
        law("");
        due("strike of nothing", x.strike(0), NONE);
    }

    private void swap() {
        speak(SMALL + "like f b; peace free b d e;");
        law("a and c.");
        due("swap(1, unless)", x.swap(1, UNLESS), 3);
        dueSigns("swap", false, 0, UNLESS, 4, STOP);
        due("swap for a stop: words", x.swap(1, STOP), 2);
        dueSigns("two sentences", false, 0, STOP, 4, STOP);
        due("size(false, 1)", x.size(false, 1), 2);
        due("forbids(false, 1)", x.forbids(false, 1), 1);
        due("swap back", x.swap(1, OR), 3);
        due("what is there already", x.swap(1, OR), NONE);
        due("swap that breaks the peace", x.swap(2, 5), NONE);
        due("swap for not", x.swap(0, NOT), NONE);
        due("swap of no such word", x.swap(0, 2), NONE);
        due("swap of no such like word", x.swap(0, 13), NONE);
        due("swap(4, 0)", x.swap(4, 0), NONE);
        due("swap(-1, 0)", x.swap(-1, 0), NONE);
        due("swap(0, 23)", x.swap(0, 23), NONE);
        due("swap(0, -1)", x.swap(0, -1), NONE);
        due("status(2)", x.status(2), 9);
        due("has(10)", x.has(10), 4);
        speak(SMALL + "limit 2;");
        law("a. b.");
        due("swap above the limit", x.swap(1, AND), NONE);
    }

    private void undo() {
        speak(PARTIES);
        due("undo() of nothing", x.undo(), false);
        due("status(3)", x.status(3), 1);
        law("d.");
        law("d.");
        x.put(0, NOT);
        x.strike(0);
        x.swap(0, 4);
        other("b.");
        x.put(0, 0);
        due("refused calls are no acts", x.has(10), 5);
        due("undo() of swap", x.undo(), true);
        dueSigns("undo() of swap", false, 5, STOP);
        due("undo() of strike", x.undo(), true);
        dueSigns("undo() of strike", false, NOT, 5, STOP);
        due("undo() of put", x.undo(), true);
        dueSigns("undo() of put", false, 5, STOP);
        due("undo() of the same law", x.undo(), true);
        dueSigns("undo() of the same law", false, 5, STOP);
        dueSigns("the other law stays", true, 1, STOP);
        due("undo() of law()", x.undo(), true);
        dueSigns("undo() of law()", false);
        due("undo() of no more", x.undo(), false);
        law("d.");
        due("two springs", x.spring(2), 2);
        due("undo() of one spring", x.undo(), true);
        dueSigns("undo() of one spring", false, 0, STOP);
        due("the meaning comes back, too", x.size(false, 2), 2);
        for (int k = 0; k < 30; k++) {
            x.swap(0, k % 2 == 0 ? 1 : 0);
        }
        due("the last 20", x.has(10), 20);
        for (int k = 0; k < 20; k++) {
            due("undo() " + k, x.undo(), true);
            dueSigns("undo() " + k, false, k % 2 == 0 ? 1 : 0, STOP);
        }
        due("undo() 20", x.undo(), false);
        due("status(3)", x.status(3), 3);
    }

    /** Of "e.": not at 0; no strike; e for a, b, c, d. */
    private void changes() {
        speak(PARTIES);
        law("e.");
        due("changes(0)", x.changes(0), 1);
        due("changes(1)", x.changes(1), 0);
        due("changes(2)", x.changes(2), 4);
        due("changes(3)", x.changes(3), NONE);
        due("changes(-1)", x.changes(-1), NONE);
        // A not at three places; each not struck; four words for a.
        law("not not a.");
        due("changes(0) of nots", x.changes(0), 3);
        due("changes(1) of nots", x.changes(1), 2);
        due("changes(2) of nots", x.changes(2), 4);
        law("");
        due("changes(0) of nothing", x.changes(0), 0);
        speak(SMALL + "peace forbid a c e; limit 3;");
        law("a or c.");
        // For a each of b c d e, as c forbids case 0; for c each of a b d e, as a does; for or an and, a stop.
        due("changes(0) at the limit", x.changes(0), 0);
        due("changes(2) with a peace", x.changes(2), 4 + 4 + 2);
        due("nothing was changed", x.has(10), 1);
    }

    // ---- promises 20 to 25: fewest words, ways, holes

    private void fewest() {
        speak(SMALL);
        dueFewest("a or b.", 1, 1, 8, NONE);
        dueFewest("a and c.", 3, 1, 22, NONE);
        dueFewest("a and c. b and d.", 6, 2, 22, 84);
        dueFewest("a. d.", 2, 2, 0, 6);
        dueFewest("d. a.", 2, 2, 0, 6);
        dueFewest("not a.", 1, 1, 2, NONE);
        dueFewest("a unless a.", 0, 0, NONE, NONE);
        dueFewest("", 0, 0, NONE, NONE);
        due("fewest(false, 4)", x.fewest(false, 4), NONE);
        due("fewest(false, -1)", x.fewest(false, -1), NONE);
        law("a.");
        other("c.");
        due("fewest(false, 2)", x.fewest(false, 2), 0);
        due("fewest(true, 2)", x.fewest(true, 2), 4);
        law("d.");
        due("fewest(false, 2) of another law", x.fewest(false, 2), 6);
        due("fewest(true, 2) again", x.fewest(true, 2), 4);
        law("a.");
        due("fewest(false, 0) of cases 0 and 2", x.fewest(false, 0), 1);
        Bench.tell(x, "who b; what c; what a; what d; what f; when e;");
        x.tongue();
        dueFewest("c. d.", 2, 2, 2, 6);
        fewestOfNewTongues();
    }

    /** Nothing of an old tongue's short sentences is left, where the same cases are told by other words. */
    private void fewestOfNewTongues() {
        speak(SMALL);
        other("a.");
        due("fewest(true, 0) of cases 0 and 2", x.fewest(true, 0), 1);
        Bench.tell(x, "who b; what c; what a; what d; what f; when e;");
        x.tongue();
        other("c. d.");
        due("fewest(true, 0) of a new tongue", x.fewest(true, 0), 2);
        due("fewest(true, 3) of a new tongue", x.fewest(true, 3), 6);
        // Here e and i forbids cases 0 to 3, which no short sentence of the next tongue does.
        speak("who a; who b; who c; who d; what e; what f; what g; what h; when i; when j; when k; when l;");
        due("shorts() of the old tongue", x.shorts(), 24 + 3 * 576);
        Bench.tell(x, "who a; who b; who f; what c; what d; what g; when e;");
        x.tongue();
        dueFewest("c. a and d. f and g.", NONE, NONE, NONE, NONE);
    }

    private void fewestEdges() {
        speak("who a; who b; who f; what c; what d; what g; when e;");
        dueFewest("a and c. b and d. f and g.", NONE, NONE, NONE, NONE);
        dueFewest("a and c.", 3, 1, 14 + (0 * 14 + 6) * 3, NONE);
        // not a: two words, one sentence, or b. f.: two words, two sentences.
        dueFewest("b or f.", 2, 1, 1, NONE);
        speak("who a; what c; when e;");
        dueFewest("a.", 1, 1, 0, NONE);
        speak("who b; what c; when e;");
        dueFewest("a.", 0, 0, NONE, NONE);
        dueFewest("c.", 1, 1, 0, NONE);
    }

    private void shorts() {
        speak(SMALL);
        due("shorts()", x.shorts(), 10 + 3 * 100);
        speak("who a; like b a;");
        due("shorts() of one word", x.shorts(), 2 + 3 * 4);
        speak("who a; who b; who c; who d; what e; what f; what g; what h; when i; when j; when k; when l;");
        due("shorts() of most", x.shorts(), 24 + 3 * 24 * 24);
        Bench.tell(x, "");
        x.tongue();
        due("shorts() of nothing", x.shorts(), 0);
    }

    private void brief() {
        speak(SMALL + "judged forbid a c e; judged free b any any;");
        int[][] wanted = {
            // sentence, words, cases, fitting
            {0, 1, 2, 1}, {1, 2, 2, 0}, {2, 1, 2, 0}, {3, 2, 2, 1}, {8, 1, 4, 0}, {9, 2, 0, 0},
            {10, 3, 2, 1}, {22, 3, 1, 1}, {23, 3, 3, 0}, {24, 3, 1, 0}, {43, 5, 2, 0}, {44, 5, 2, 0}, {45, 5, 0, 0},
            {309, 5, 0, 0}, {307, 5, 0, 0}, {13, 4, 0, 0}, {14, 4, 4, 0}, {15, 4, 2, 1},
        };
        for (int[] row : wanted) {
            for (int what = 0; what < 3; what++) {
                due("brief(" + row[0] + ", " + what + ")", x.brief(row[0], what), row[what + 1]);
            }
            due("brief(" + row[0] + ", 3)", x.brief(row[0], 3), NONE);
            due("brief(" + row[0] + ", -1)", x.brief(row[0], -1), NONE);
        }
        due("brief(310, 0)", x.brief(310, 0), NONE);
        due("brief(-1, 0)", x.brief(-1, 0), NONE);
    }

    private void way() {
        speak(SMALL + "like f a;");
        dueWay("a.", "a.", 0);
        dueWay("a.", "f.", 1);
        dueWay("a.", "not a.", 1);
        dueWay("not a.", "a.", 1);
        dueWay("a and c.", "b or c.", 2);
        dueWay("a and c.", "b or d.", 3);
        dueWay("a and c.", "b unless not d.", NONE);
        dueWay("a. b.", "a or b.", 1);
        dueWay("a.", "a. b.", NONE);
        dueWay("", "", 0);
        dueWay("", "a.", NONE);
        dueWay("not not not a.", "b.", NONE);
        dueWay("not not a.", "b.", 3);
        String nine = "a.".repeat(9);
        dueWay(nine + "a.", nine + "b.", 1);
        dueWay(nine, "not b." + "a.".repeat(8), 2);
        dueWay(nine, "not b." + nine, NONE);
        dueWay(nine + "a.", nine + "a.b.", NONE);
        dueWay(nine + "not a.", nine + "a.", NONE);
        dueWay(nine + "a.", nine + "not a.", NONE);
        dueWay(nine + "a.a.", nine + "a.a.", 0);
        speak(SMALL + "limit 3;");
        dueWay("a and b.", "not c.", NONE);
        dueWay("not not a.", "not b.", 2);
    }

    private void wayWithPeace() {
        speak(SMALL + "peace forbid a c e;");
        due("the law keeps the peace", law("a."), 1);
        due("the other law", other("not b."), 2);
        due("way() with a peace", x.way(), NONE);
        other("b.");
        due("way() to a law that does not keep the peace", x.way(), NONE);
        other("c.");
        due("way() of one", x.way(), 1);
        other("e and c.");
        due("way() of puts", x.way(), NONE);
        law("a or d.");
        other("d or c.");
        // d or d breaks the peace; c ahead: a or c, then d or c.
        due("way() in the one order that keeps the peace", x.way(), 2);
        speak(SMALL + "peace forbid a c e;");
        other("a.");
        due("way() from a law that does not keep the peace", x.way(), NONE);
        speak(SMALL + "like g a; peace free any d any;");
        // b and b, a and g break the peace: c comes for a, g for b, b for c.
        dueWay("a and b.", "b and g.", 3);
    }

    private void hole() {
        speak(SMALL);
        law("a.");
        other("c.");
        due("hole(true, 0)", x.hole(true, 0), 1);
        due("hole(true, 1)", x.hole(true, 1), NONE);
        due("hole(false, 0)", x.hole(false, 0), 2);
        due("hole(false, 1)", x.hole(false, 1), NONE);
        due("hole(true, -1)", x.hole(true, -1), NONE);
        law("");
        other("e.");
        for (int k = 0; k < 4; k++) {
            due("hole(true, " + k + ")", x.hole(true, k), k);
        }
        due("hole(true, 4)", x.hole(true, 4), NONE);
        due("hole(false, 0)", x.hole(false, 0), NONE);
    }

    private void parts() {
        speak(SMALL);
        law("a.");
        other("not b.");
        due("parts() of the same meaning", x.parts(), NONE);
        other("c.");
        due("parts()", x.parts(), 1);
        other("a and c.");
        due("parts()", x.parts(), 2);
        law("");
        due("parts() of the empty law", x.parts(), 0);
    }

    // ---- promises 26 to 29: parties

    private void worth() {
        speak(PARTIES);
        due("worth(false, 0)", x.worth(false, 0), 0);
        due("worth(false, 1)", x.worth(false, 1), 4);
        other("a. b and c.");
        due("worth(true, 0)", x.worth(true, 0), 10);
        due("worth(true, 1)", x.worth(true, 1), 1);
        due("worth(false, 2)", x.worth(false, 2), NONE);
        due("worth(true, -1)", x.worth(true, -1), NONE);
        due("worth(true, 20)", x.worth(true, 20), NONE);
        speak("party p votes 1; wish p forbid any any any worth 9;");
        due("worth without cases", x.worth(false, 0), 0);
        speak(SMALL + "party r votes 1;");
        due("worth without wishes", x.worth(false, 0), 0);
    }

    private void votes() {
        speak(PARTIES);
        due("votes(true) of the same", x.votes(true), 0);
        due("votes(false) of the same", x.votes(false), 0);
        other("a.");
        due("votes(true)", x.votes(true), 3);
        due("votes(false)", x.votes(false), 2);
        other("b.");
        due("votes(true)", x.votes(true), 2);
        due("votes(false)", x.votes(false), 0);
        law("e.");
        due("votes(true)", x.votes(true), 2);
        due("votes(false)", x.votes(false), 3);
    }

    private void rest() {
        speak(PARTIES);
        due("rest() of the empty law", x.rest(), 1);
        law("d.");
        due("rest() of d", x.rest(), 0);
        dueSigns("rest() changes nothing", false, 5, STOP);
        law("a.");
        due("rest() of a", x.rest(), 0);
        law("e.");
        due("rest() of e", x.rest(), 1);
        String even = "party p votes 2; party q votes 2;";
        speak(SMALL + even + "wish p forbid a any any worth 9; wish q free a any any worth 1;");
        law("b.");
        due("like votes are not more", x.rest(), 1);
    }

    private void spring() {
        speak(PARTIES);
        law("d.");
        due("spring(0)", x.spring(0), NONE);
        due("spring(21)", x.spring(21), NONE);
        due("spring(-1)", x.spring(-1), NONE);
        due("status(2)", x.status(2), 3);
        due("spring(1)", x.spring(1), 1);
        dueSigns("the first voted change", false, 0, STOP);
        due("spring(20)", x.spring(20), 1);
        dueSigns("at rest", false, 8, STOP);
        due("each is an act", x.has(10), 3);
        due("spring(1) at rest", x.spring(1), 0);
        due("that is no refusal", x.status(2), 3);
        law("not a.");
        due("spring(1) of not a", x.spring(1), 1);
        dueSigns("striking comes ahead of putting", false, 0, STOP);
        law("b.");
        due("spring(1) of b", x.spring(1), 1);
        dueSigns("another sign comes ahead of putting", false, 0, STOP);
        law("not not d.");
        due("spring(1) of not not d", x.spring(1), 1);
        dueSigns("by places", false, NOT, NOT, 0, STOP);
        speak(SMALL + "party p votes 1; wish p free a c e worth 1; peace forbid a c e;");
        law("a.");
        due("no spring breaks the peace", x.spring(20), 0);
    }

    // ---- promises 30 to 34: judgments, lots, questions

    private void fitting() {
        String one = "who a; what b; when c;";
        speak(one);
        due("fitting(0) without judgments", x.fitting(0), 114);
        due("fitting(1) without judgments", x.fitting(1), 0);
        due("fitting(2) without judgments", x.fitting(2), 1);
        speak(one + "judged forbid a b c;");
        due("fitting(0)", x.fitting(0), 3 + 9 + 27 + 9);
        due("fitting(1)", x.fitting(1), 1);
        due("fitting(2)", x.fitting(2), 1);
        due("fitting(3)", x.fitting(3), NONE);
        due("fitting(-1)", x.fitting(-1), NONE);
        speak(one + "judged free any any any;");
        due("fitting(0) of free", x.fitting(0), 114 - 48);
        due("fitting(1) of free", x.fitting(1), 0);
        due("fitting(2) of free", x.fitting(2), 0);
        speak(one + "judged forbid a b c; judged free any any any;");
        due("fitting(0) of none", x.fitting(0), 0);
        due("fitting(1) of none", x.fitting(1), 0);
        due("fitting(2) of none", x.fitting(2), 0);
        Bench.tell(x, one + "judged forbid a b c;");
        x.tongue();
        due("fitting(0) of a new tongue", x.fitting(0), 48);
    }

    private void judged() {
        speak(SMALL + "judged forbid a any any; judged free b c e;");
        law("a.");
        due("judged()", x.judged(), NONE);
        law("a and c.");
        due("judged() of a part", x.judged(), 0);
        law("a. b.");
        due("judged() of too much", x.judged(), 1);
        law("b.");
        due("judged(): the first", x.judged(), 0);
        speak(SMALL);
        due("judged() without judgments", x.judged(), NONE);
    }

    private void seed() {
        speak("who a; what c; when e;");
        due("seed(-1)", x.seed(-1), false);
        due("seed(least)", x.seed(Integer.MIN_VALUE), false);
        due("status(4)", x.status(4), 2);
        law("not not a.");
        // From 1 on the draws of 4 are 2, 3, 2, 0.
        due("the seed is 1 at first", x.stroke(), NONE);
        due("draw 2", x.stroke(), NONE);
        due("draw 3", x.stroke(), NONE);
        due("draw 4", x.stroke(), 0);
        law("not not a.");
        due("seed(0)", x.seed(0), true);
        due("stroke() from 0", x.stroke(), 0);
        law("not not a.");
        due("seed(most)", x.seed(Integer.MAX_VALUE), true);
        due("stroke() from most", x.stroke(), NONE);
        due("the draw behind it", x.stroke(), 0);
    }

    private void stroke() {
        speak(SMALL + "peace forbid a c e;");
        due("stroke() of nothing", x.stroke(), NONE);
        law("not not a.");
        x.seed(0);
        due("stroke() that breaks the peace", x.stroke(), NONE);
        due("it is no refusal", x.status(2), 0);
        due("it is no act", x.has(10), 1);
        speak(SMALL);
        due("stroke() of nothing", x.stroke(), NONE);
        law("not not a.");
        // The first draws of 4 are 2, 3, 2, 0, 0: had the empty law drawn, the third here would strike.
        due("draw 1", x.stroke(), NONE);
        due("draw 2", x.stroke(), NONE);
        due("the empty law draws not", x.stroke(), NONE);
        due("draw 4", x.stroke(), 0);
        dueSigns("stroke()", false, NOT, 0, STOP);
        due("an act", x.has(10), 2);
        due("undo() of stroke()", x.undo(), true);
        dueSigns("undo() of stroke()", false, NOT, NOT, 0, STOP);
    }

    private void ask() {
        speak(SMALL);
        law("a. d.");
        other("c.");
        String[] texts = {
            "first law=1", "last law=1", "often law=1", "first other=law", "last case<0", "first case>3", "often all",
            "often not all", "often who=1 or what=1 and when=0", "often [who=1 or what=1] and who=0",
            "often not not who=1",
            "first borne 1=1", "often borne 0+borne 1=2", "often borne 2=1", "often borne(0-1)=1", "total case",
            "total who",
            "total what", "total when", "total law*10+other", "most case*case", "least 5-case",
            "first not law=1 and other=1",
        };
        long[] wanted = {0, 3, 3, 0, NONE, NONE, 4, 0, 3, 1, 2, 2, 1, 0, 0, 6, 2, 2, 0, 32, 9, 2, 1};
        for (int k = 0; k < texts.length; k++) {
            due("ask() of " + texts[k], ask(texts[k]), wanted[k]);
            due("fault(0) of " + texts[k], x.fault(0), 0);
        }
        due("the tape went", x.end(1), false);
        due("ask() with a fault", ask("first law=1 and"), HundredWords.NOTHING);
        due("a fault of ask() is no refusal", x.status(1), 0);
        due("the tape went", x.end(1), false);
        x = new HundredWords();
        due("first without cases", ask("first all"), NONE);
        due("last without cases", ask("last all"), NONE);
        due("often without cases", ask("often all"), 0);
        due("total without cases", ask("total 5"), 0);
        due("most without cases", ask("most 5"), 0);
        due("least without cases", ask("least 5"), 0);
    }

    private void askSums() {
        speak("who a; what c; when e;");
        law("a.");
        String[] texts = {
            "total 7/2", "total (0-7)/2", "total 7/(0-2)", "total 7/0", "total 0/0", "total 2+3*4", "total (2+3)*4",
            "total 10-3-2", "total 100/10/2", "total 100/10*2", "total 2*3/4", "total 9999*9999", "total 0-9999*9999",
            "total 0-9999*9999-1", "total 9999*9999+1-1", "total 9999*9999/2", "total 9999*101",
            "total min(3,2)*max(3,2)",
            "total max(0-1,0-2)", "total (0-9999)*9999", "total borne 0", "total borne borne borne 0", "total 0007",
            "total borne(law-1)", "most 0-5", "least 0-5", "total 1000*1000", "total 1000*1000+1", "total 999*1001",
        };
        long[] wanted = {
            3, -4, -4, 0, 0, 14, 20, 5, 5, 20, 1, 1000000, -1000000, -1000000, 999999, 500000, 1000000, 6, -1,
            -1000000, 1, 1, 7, 1, -5, -5, 1000000, 1000000, 999999,
        };
        for (int k = 0; k < texts.length; k++) {
            due("ask() of " + texts[k], ask(texts[k]), wanted[k]);
        }
        speak("who a; who b; who c; who d; what e; what f; what g; what h; when i; when j; when k; when l;");
        due("total is not held", ask("total 9999*9999"), 64000000);
        due("total is not held below", ask("total 0-9999*9999"), -64000000);
        String ones = "total 1" + "+1".repeat(796);
        for (int turn = 0; turn < 4; turn++) {
            due("a sum of 797 ones", ask(ones), 64 * 797);
        }
    }

    // ---- promises 35 to 38: images, refusals

    private void image() {
        speak(SMALL);
        law("a.");
        other("not b.");
        due("image()", x.image(), 8);
        int[] wanted = {2, 0, 22, 3, 20, 1, 22};
        int seal = 101;
        for (int k = 0; k < wanted.length; k++) {
            due("octet(" + k + ")", x.octet(k), wanted[k]);
            seal = (5 * seal + wanted[k]) % 239;
        }
        due("octet(7)", x.octet(7), seal);
        law("a.".repeat(30));
        other("b.".repeat(30));
        due("image() of most", x.image(), 123);
        due("octet(60)", x.octet(60), 22);
        due("octet(61)", x.octet(61), 60);
    }

    private void octet() {
        x = new HundredWords();
        due("octet(0) ahead of image()", x.octet(0), NONE);
        due("image()", x.image(), 3);
        due("octet(2)", x.octet(2), 135);
        due("octet(3)", x.octet(3), NONE);
        due("octet(-1)", x.octet(-1), NONE);
        due("octet(most)", x.octet(Integer.MAX_VALUE), NONE);
        Bench.tell(x, SMALL);
        x.tongue();
        law("a.");
        due("octet(0) of the latest image()", x.octet(0), 0);
        x.image();
        due("octet(0)", x.octet(0), 2);
        law("");
        x.image();
        due("octet(3) behind a shorter image()", x.octet(3), NONE);
    }

    private void restore() {
        speak(SMALL + "peace forbid a c e;");
        law("a.");
        other("b.");
        due("restore()", restored(2, 1, 22, 2, 5, 22, sealOf(2, 1, 22, 2, 5, 22)), true);
        dueSigns("restore()", false, 1, STOP);
        dueSigns("restore()", true, 5, STOP);
        due("the peace is not asked for", x.size(false, 4), 0);
        due("nothing can be undone", x.has(10), 0);
        due("the meaning", x.forbids(false, 1), 1);
        due("the other meaning", x.forbids(true, 3), 1);
        due("the tape went", x.end(1), false);
        law("a.");
        due("restore() of a wrong seal", restored(0, 0, 134), false);
        due("restore() of nothing", restored(), false);
        due("status(5)", x.status(5), 2);
        dueSigns("all stays", false, 0, STOP);
        due("acts stay", x.has(10), 1);
        due("the tape went", x.end(1), false);
        due("restore() of empty laws", restored(0, 0, 135), true);
        dueSigns("empty", false);
        dueSigns("empty", true);
    }

    private void restoreEdges() {
        speak(SMALL + "limit 3;");
        int[][] wrong = {
            {0}, {0, 0, 135, 0}, {1, 22, 0}, {2, 0, 22}, {2, 0, 22, 2, 0}, {61, 0}, {255, 255}, {1, 0, 0},
            {2, 2, 22, 0},
            {2, 0, 23, 0}, {2, 12, 22, 0}, {3, 0, 1, 22, 0}, {0, 1, 22}, {0, 2, 0, 19}, {5, 20, 20, 20, 0, 22, 0},
            {0, 5, 20, 20, 20, 0, 22}, {2, 255, 22, 0},
        };
        for (int[] bytes : wrong) {
            int[] sealed = Arrays.copyOf(bytes, bytes.length + 1);
            sealed[bytes.length] = sealOf(bytes);
            due("restore() of " + Arrays.toString(sealed), restored(sealed), false);
        }
        due("status(5)", x.status(5), wrong.length);
        due("restore() at the limit", restored(4, 20, 20, 0, 22, 0, sealOf(4, 20, 20, 0, 22, 0)), true);
        dueSigns("at the limit", false, NOT, NOT, 0, STOP);
        due("size(false, 0)", x.size(false, 0), 3);
    }

    private void restoreLong() {
        speak(SMALL);
        law("a.".repeat(30));
        other("b.".repeat(30));
        int[] most = new int[x.image()];
        for (int k = 0; k < most.length; k++) {
            most[k] = x.octet(k);
        }
        law("c.");
        due("restore() of most", restored(most), true);
        due("sign(false, NONE)", x.sign(false, NONE), 60);
        due("sign(true, 58)", x.sign(true, 58), 1);
        int[] more = new int[65];
        more[0] = 62;
        for (int k = 1; k < 63; k++) {
            more[k] = k % 2 == 0 ? STOP : 0;
        }
        more[64] = sealOf(Arrays.copyOf(more, 64));
        due("restore() of 62 signs", restored(more), false);
    }

    private void status() {
        speak(SMALL);
        x.feed(0, 0, 0, 0, 0);
        x.end(99);
        law("x");
        x.put(0, 0);
        x.strike(9);
        x.swap(0, 0);
        x.spring(0);
        x.undo();
        x.undo();
        x.seed(-5);
        x.restore();
        x.fewest(false, 9);
        x.stroke();
        ask("x");
        int[] wanted = {1, 1, 4, 2, 1, 1};
        for (int what = 0; what < wanted.length; what++) {
            due("status(" + what + ")", x.status(what), wanted[what]);
        }
        due("status(6)", x.status(6), NONE);
        due("status(-1)", x.status(-1), NONE);
        Bench.tell(x, SMALL);
        x.tongue();
        due("status(2) stays behind a tongue", x.status(2), 4);
    }
}
