import java.util.Arrays;
import java.util.function.IntUnaryOperator;

/**
 * Promises 1 to 38, sentence by sentence: the last input inside each boundary, the first one beyond it, and far ones.
 */
public final class CallBoundariesTest extends Court {
    /** Cases: 0 a e i, 1 b e i, 2 a f i, 3 b f i. */
    private static final String FOUR = "who a;who b;what e;what f;when i;";
    private static final String ONE = "who a;what b;when c;";
    private static final String PARTIES = FOUR + "like g a;limit 9;party p votes 3;party q votes 2;"
        + "wish p forbid a any any worth 5;wish q free a e any worth 4;judged forbid a e i;judged free b f i;";
    /** From "a." to "c.", "b.", "a." and on: no law of one word is at rest. */
    private static final String CIRCLE = "who a;who b;who c;what d;when e;limit 1;"
        + "party p votes 1;wish p free a any any worth 1;wish p free b any any worth 2;wish p free c any any worth 3;"
        + "party q votes 1;wish q free b any any worth 1;wish q free c any any worth 2;wish q free a any any worth 3;"
        + "party r votes 1;wish r free c any any worth 1;wish r free a any any worth 2;wish r free b any any worth 3;";
    private static final int BLANKS = 0x20202020;

    public static void main(String[] args) {
        CallBoundariesTest test = new CallBoundariesTest();
        test.newObject();
        test.feedToTheLastByte();
        test.feedOfHighBytes();
        test.textsToTheLastByte();
        test.end();
        test.tongueWithoutFault();
        test.tongueWithFault();
        test.tonguesInTurn();
        test.textsBehindRefusedOnes();
        test.law();
        test.lawWithFault();
        test.lawAgainstThePeace();
        test.faultOfTheLatest();
        test.has();
        test.letter();
        test.lettersAsThereAre();
        test.sign();
        test.size();
        test.idleSentences();
        test.forbids();
        test.borne();
        test.led();
        test.ledWithoutMore();
        test.price();
        test.refusedChanges();
        test.lastTwentyActs();
        test.lastTwentyLongActs();
        test.undoOfEachKind();
        test.noActs();
        test.changes();
        test.fewest();
        test.brief();
        test.way();
        test.hole();
        test.parts();
        test.worth();
        test.votes();
        test.rest();
        test.springsOfOneToTwenty();
        test.springTillAtRest();
        test.fitting();
        test.judged();
        test.judgedOfManyCases();
        test.seed();
        test.strokeOfTheEmptyLaw();
        test.strokeOfNoChange();
        test.askOfNone();
        test.octet();
        test.latestImage();
        test.restoreOfFewBytes();
        test.restoreOfWrongBytes();
        test.restoreOfUnlawfulRows();
        test.restoreToTheLimits();
        test.restoreKeepsOrTakes();
        test.status();
        test.lastCall();
        test.bench.finish("CallBoundariesTest");
    }

    /** The call has an answer from first to last and NONE beyond, just beyond and far off. */
    private void dueWithin(String name, IntUnaryOperator call, int first, int last) {
        for (int n = first; n <= last; n++) {
            due(name + " of " + n + " is one", call.applyAsInt(n) != NONE, true);
        }
        due(name + " of " + (first - 1), call.applyAsInt(first - 1), NONE);
        due(name + " of " + (last + 1), call.applyAsInt(last + 1), NONE);
        dueNoneFar(name, call);
    }

    private void dueNoneFar(String name, IntUnaryOperator call) {
        for (int far : FAR) {
            due(name + " of " + far, call.applyAsInt(far), NONE);
        }
    }

    // ---- promises 1 to 8

    /** "No WORDS; THE LAW and THE OTHER LAW are empty." */
    private void newObject() {
        x = new HundredWords();
        for (int sign = -1; sign < 30; sign++) {
            due("letter(" + sign + ", 0)", x.letter(sign, 0), NONE);
        }
        for (boolean other : new boolean[] {false, true}) {
            dueSigns("at first", other);
            due("worth", x.worth(other, 0), NONE);
            due("votes", x.votes(other), 0);
            due("hole", x.hole(other, 0), NONE);
            due("forbids", x.forbids(other, 0), NONE);
            due("fewest(.., 0)", x.fewest(other, 0), 0);
            due("fewest(.., 1)", x.fewest(other, 1), 0);
            due("fewest(.., 2)", x.fewest(other, 2), NONE);
        }
        due("has(9)", x.has(9), 0);
        due("has(4)", x.has(4), 40);
        due("law of nothing", law(""), 0);
        due("law of a word", law("a."), NONE);
        due("fault(0): no word is there", x.fault(0), 3);
        due("undo()", x.undo(), true);
        due("undo()", x.undo(), false);
        due("stroke()", x.stroke(), NONE);
        due("spring(20)", x.spring(20), 0);
        due("image()", x.image(), 3);
    }

    private int feedBlanks() {
        return x.feed(BLANKS, BLANKS, BLANKS, BLANKS, BLANKS);
    }

    /** "NONE, refused (0), if there would be more than 1600." */
    private void feedToTheLastByte() {
        x = new HundredWords();
        for (int k = 1; k <= 80; k++) {
            due("feed " + k, feedBlanks(), 20 * k);
        }
        due("status(0) of 1600", x.status(0), 0);
        due("feed 81", x.feed(1, 2, 3, 4, 5), NONE);
        due("status(0) of 1620", x.status(0), 1);
        due("nothing came", x.end(1601), false);
        due("all is there", x.end(1600), true);
        for (int length = 1599; length > 1580; length--) {
            due("end(" + length + ")", x.end(length), true);
            due("feed to " + (length + 20), feedBlanks(), NONE);
        }
        due("status(0)", x.status(0), 21);
        due("end(1580)", x.end(1580), true);
        due("feed to 1600", feedBlanks(), 1600);
        due("end(1579)", x.end(1579), true);
        due("feed to 1599", feedBlanks(), 1599);
        due("the refused ones left nothing", x.tongue(), 0);
        due("the tape went", feedBlanks(), 20);
    }

    /** "of each number the highest first": numbers below 0 have a highest byte of 128 and more. */
    private void feedOfHighBytes() {
        int[] numbers = {-1, Integer.MIN_VALUE, Integer.MAX_VALUE, 0x80808080, 0};
        int[] octets = {255, 255, 255, 255, 128, 0, 0, 0, 127, 255, 255, 255, 128, 128, 128, 128, 0, 0, 0, 0};
        for (int k = 0; k < 20; k++) {
            x = new HundredWords();
            x.feed(0, 0, 0, 0, 0);
            due("end(0)", x.end(0), true);
            due("feed", x.feed(numbers[0], numbers[1], numbers[2], numbers[3], numbers[4]), 20);
            due("restore() of high bytes", x.restore(), false);
            due("byte " + k + " is no text", restored(octets[k]), false);
            Bench.tell(x, "a" + (char) octets[k]);
            due("law()", x.law(true), NONE);
        }
        x = new HundredWords();
        // "limit 7;who a;what b;" by its bytes, then the same numbers with a byte of 128 in the last place.
        due("feed", x.feed(0x6c696d69, 0x7420373b, 0x77686f20, 0x613b7768, 0x61742062), 20);
        due("feed", x.feed(0x3b0a0a0a, BLANKS, BLANKS, BLANKS, 0x0a200a20), 40);
        due("tongue()", x.tongue(), 3);
        due("letter(4, 0)", x.letter(4, 0), 2);
        x.feed(0x6c696d69, 0x7420373b, 0x77686f20, 0x613b7768, 0x61742062);
        x.feed(0x3b0a0a0a, BLANKS, BLANKS, BLANKS, 0x0a200a80);
        due("tongue() with a byte of 128", x.tongue(), NONE);
        due("its place", x.fault(1), 39);
    }

    private void textsToTheLastByte() {
        x = new HundredWords();
        due("1600 bytes of a tongue", tongue(" ".repeat(1592) + "limit 7;"), 1);
        due("has(4)", x.has(4), 7);
        due("the last byte is wrong", tongue(" ".repeat(1599) + "x"), NONE);
        due("its place", x.fault(1), 1599);
        due("1600 bytes that end too soon", tongue(" ".repeat(1596) + "who "), NONE);
        due("their length", x.fault(1), 1600);
        due("a word to the last byte", tongue(" ".repeat(1590) + "who abcdef"), NONE);
        due("its fault", x.fault(0), 1);
        due("its place", x.fault(1), 1600);
        due("a 7th letter at the last byte", tongue(" ".repeat(1589) + "who abcdefg"), NONE);
        due("its place", x.fault(1), 1599);
        due("a 5th digit at the last byte", tongue(" ".repeat(1589) + "limit 00007"), NONE);
        due("its place", x.fault(1), 1599);
        speak(ONE);
        due("1600 bytes of a law", law(" ".repeat(1598) + "a."), 1);
        due("1600 bytes of a law that ends too soon", law(" ".repeat(1599) + "a"), NONE);
        due("their length", x.fault(1), 1600);
        due("1600 blanks", law("\n".repeat(1600)), 0);
    }

    /** "false, refused (0), if it has not so many, or n is below 0." */
    private void end() {
        x = new HundredWords();
        due("end(0) of nothing", x.end(0), true);
        due("status(0)", x.status(0), 0);
        due("end(1) of nothing", x.end(1), false);
        due("end(-1) of nothing", x.end(-1), false);
        due("status(0)", x.status(0), 2);
        // "limit 5;limit 6;" and four blanks.
        x.feed(0x6c696d69, 0x7420353b, 0x6c696d69, 0x7420363b, BLANKS);
        due("end(20)", x.end(20), true);
        due("end(21)", x.end(21), false);
        due("end(-1)", x.end(-1), false);
        for (int far : FAR) {
            due("end(" + far + ")", x.end(far), false);
        }
        due("status(0)", x.status(0), 4 + FAR.length);
        due("the refused ones cut nothing", x.end(20), true);
        due("end(16)", x.end(16), true);
        due("end(17)", x.end(17), false);
        due("end(8)", x.end(8), true);
        due("end(9)", x.end(9), false);
        due("tongue() of the first 8", x.tongue(), 1);
        due("has(4)", x.has(4), 5);
        due("the tape went", x.end(1), false);
        due("end(0) behind it", x.end(0), true);
    }

    /** "Without one both LAWS are empty, nothing can be undone; the seed stays." */
    private void tongueWithoutFault() {
        speak(PARTIES);
        law("a.");
        law("not not a.");
        other("b.");
        x.seed(0);
        x.image();
        int[] refused = {0, 0, 2, 1, 1, 1};
        x.seed(-1);
        x.spring(0);
        x.spring(21);
        x.restore();
        tongue(FOUR);
        dueSigns("behind a tongue", false);
        dueSigns("behind a tongue", true);
        due("has(10)", x.has(10), 0);
        due("undo()", x.undo(), false);
        for (int what = 0; what < 6; what++) {
            due("status(" + what + ") stays", x.status(what), refused[what]);
        }
        due("the latest image stays", x.octet(0), 4);
        law("not not a.");
        due("the seed stays", x.stroke(), 0);
        due("has(4) without limit", x.has(4), 40);
        due("has(5)", x.has(5), 0);
        due("has(6)", x.has(6), 0);
        due("has(8)", x.has(8), 0);
        due("tongue() of nothing", tongue(""), 0);
        due("has(9)", x.has(9), 0);
        due("the other law", other("a."), NONE);
    }

    /**
     * "NONE, refused (1), with a FAULT (all stays)": a fault of each kind, at the end of a text that would tell much.
     */
    private void tongueWithFault() {
        String much = "when b;what a;who f;who i;limit 3;party u votes 9;wish u free any any any worth 9;"
            + "peace free any any any;judged free any any any;";
        String[] faults = {"x", "limit 0;", "who b;", "who j;who k;who l;", ""};
        int[] kinds = {1, 2, 3, 5, 1};
        for (int k = 0; k < faults.length; k++) {
            speak(PARTIES);
            law("not not a.");
            law("not a and e unless g.");
            other("b.e.");
            x.seed(0);
            x.image();
            String before = told();
            due("tongue()", tongue(k == 4 ? much.substring(0, much.length() - 1) : much + faults[k]), NONE);
            due("fault(0)", x.fault(0), kinds[k]);
            due("status(1)", x.status(1), 1);
            due("the tape went", x.end(1), false);
            dueStays("a tongue with fault " + kinds[k], before);
            due("undo()", x.undo(), true);
            dueSigns("what was undone", false, NOT, NOT, 0, STOP);
            due("the seed stays", x.stroke(), 0);
        }
    }

    /** "The tape .. is THE TONGUE": nothing of the ones ahead of it is left. */
    private void tonguesInTurn() {
        String full = tongueOf(4, 4, 4) + row("like m% l;", 6) + row("party p% votes 9;", 5)
            + "wish pa forbid any any any worth 9;".repeat(16) + "peace free a any any;".repeat(8)
            + "judged forbid a any any;".repeat(10) + "limit 3;";
        String few = "who z;what y;when x;like w z;party v votes 2;wish v free any any any worth 4;"
            + "peace free any y any;judged free any any x;limit 7;";
        String none = "who m;what b;when n;";
        String[] texts = {full, few, none, "", full, none, few, "", few, none, full};
        int[] ofFull = {4, 4, 4, 6, 3, 5, 16, 8, 10, 64, 0};
        int[] ofFew = {1, 1, 1, 1, 7, 1, 1, 1, 1, 1, 0};
        int[] ofNone = {1, 1, 1, 0, 40, 0, 0, 0, 0, 1, 0};
        int[] ofNothing = {0, 0, 0, 0, 40, 0, 0, 0, 0, 0, 0};
        x = new HundredWords();
        for (String text : texts) {
            due("tongue()", tongue(text), text.chars().filter(c -> c == ';').count());
            int[] wanted = text == full ? ofFull : text == few ? ofFew : text == none ? ofNone : ofNothing;
            for (int what = 0; what < wanted.length; what++) {
                due("has(" + what + ")", x.has(what), wanted[what]);
            }
            int literals = 2 * (wanted[0] + wanted[1] + wanted[2]);
            due("shorts()", x.shorts(), literals + 3 * literals * literals);
            due("letter(1, 0)", x.letter(1, 0), text == full ? 2 : NONE);
            due("letter(21, 0)", x.letter(21, 0), text == full ? 16 : NONE);
            due("worth(false, 0)", x.worth(false, 0), text == few ? 4 : text == full ? 0 : NONE);
            due("size(false, 4)", x.size(false, 4), 1);
            due("judged()", x.judged(), text == full ? 0 : NONE);
            due("the limit", law("not ".repeat(wanted[4]) + "z."), NONE);
            due("its fault", x.fault(0), 5);
            due("a law of all", law(text == full ? "b." : text == few ? "y and not y." : text == none ? "m." : ""),
                text == few ? 4 : text.isEmpty() ? 0 : 1);
            due("forbids(false, 0)", x.forbids(false, 0), text == none ? 1 : text.isEmpty() ? NONE : 0);
            due("fewest(false, 2)", x.fewest(false, 2), text == full ? 2 : text == none ? 0 : NONE);
            due("fitting(1)", x.fitting(1), text == full ? 16 : 0);
            due("fitting(2)", x.fitting(2), text == full ? 64 : text == none ? 1 : 0);
        }
    }

    /** What a text left half read is not there when the next one is read. */
    private void textsBehindRefusedOnes() {
        x = new HundredWords();
        String all = "who a;what b;when c;like d a;limit 3;party p votes 1;wish p free any any any worth 9;"
            + "peace forbid any any any;judged free any any any;";
        due("a fault at the end", tongue(all + "x"), NONE);
        due("tongue()", tongue("who a;what b;when c;party p votes 2;"), 4);
        int[] wanted = {1, 1, 1, 0, 40, 1, 0, 0, 0, 1, 0};
        for (int what = 0; what < wanted.length; what++) {
            due("has(" + what + ") behind a refused tongue", x.has(what), wanted[what]);
        }
        due("four of a sort behind a refused tongue", tongue(row("who %;", 4) + "who"), NONE);
        due("tongue()", tongue(row("who %;", 4) + "what e;when f;"), 6);
        due("a fault at the end", law("a.".repeat(30) + "a"), NONE);
        due("30 sentences behind a refused law", law("b.".repeat(30)), 30);
        due("a fault at the end", law("not ".repeat(39) + "a"), NONE);
        due("40 words behind a refused law", law("not ".repeat(39) + "a."), 40);
        for (String text : new String[] {"often [[[[[[", "often not not not", "total borne borne 1 1",
            "total ((((((1)))))+"}) {
            due("a fault with much open", ask(text), HundredWords.NOTHING);
            due("six open behind it", ask("often [[[[[[all]]]]]]"), 4);
            due("a fault with much open", ask(text), HundredWords.NOTHING);
            due("seven open behind it", ask("often [[[[[[[all]]]]]]]"), HundredWords.NOTHING);
            due("its fault", x.fault(0), 4);
            due("its place", x.fault(1), 12);
        }
    }

    /** "how many WORDS": 0 to 40; "(other false; an act)". */
    private void law() {
        speak(FOUR);
        due("0 words", law(""), 0);
        due("an act", x.has(10), 1);
        due("1 word", law("a."), 1);
        due("40 words", law("not ".repeat(39) + "a."), 40);
        due("acts", x.has(10), 3);
        due("41 words", law("not ".repeat(40) + "a."), NONE);
        due("no act", x.has(10), 3);
        due("other: 0 words", other(""), 0);
        due("other: 40 words", other("not ".repeat(39) + "a."), 40);
        due("other: 41 words", other("not ".repeat(40) + "a."), NONE);
        due("no acts", x.has(10), 3);
        due("status(1)", x.status(1), 2);
        due("the other law stays", x.sign(true, NONE), 41);
        due("the tape went", x.end(1), false);
    }

    /** "NONE, refused (1), with a FAULT .. (all stays)", of both laws. */
    private void lawWithFault() {
        String[] texts = {"b", "b.z.", "not not not not not not not not not b.", "b.."};
        int[] kinds = {1, 3, 5, 1};
        for (int k = 0; k < texts.length; k++) {
            speak(PARTIES);
            law("a.");
            law("not a and e unless g.");
            other("b.e.");
            x.image();
            String before = told();
            due("law(false) of " + texts[k], law(texts[k]), NONE);
            due("fault(0)", x.fault(0), kinds[k]);
            due("the tape went", x.end(1), false);
            dueStays("law(false) of " + texts[k], before);
            due("law(true) of " + texts[k], other(texts[k]), NONE);
            due("fault(0)", x.fault(0), kinds[k]);
            due("the tape went", x.end(1), false);
            dueStays("law(true) of " + texts[k], before);
            due("status(1)", x.status(1), 2);
        }
    }

    /** "-2, refused (1), when THE LAW would not keep THE PEACE (all stays)"; THE OTHER LAW need not. */
    private void lawAgainstThePeace() {
        speak(PARTIES + "peace forbid a e i;peace free b f i;");
        law("a.");
        law("a or e.");
        other("f.");
        String before = told();
        String[] texts = {"", "b.", "f.", "a.f.", "i.", "a and f.", "not a."};
        for (int k = 0; k < texts.length; k++) {
            due("law(false) of " + texts[k], law(texts[k]), -2);
            due("fault(0)", x.fault(0), 0);
            due("fault(1)", x.fault(1), NONE);
            due("status(1)", x.status(1), k + 1);
            due("the tape went", x.end(1), false);
        }
        dueStays("laws against the peace", before);
        due("a law that keeps it", law("a and e."), 3);
        due("acts", x.has(10), 3);
        for (String text : texts) {
            due("law(true) of " + text, other(text) >= 0, true);
        }
        due("status(1)", x.status(1), texts.length);
    }

    /**
     * "Of the latest tongue(), law() or ask(): its FAULT (what 0; 0 without, and ahead of any), its place (1; NONE
     * without)".
     */
    private void faultOfTheLatest() {
        x = new HundredWords();
        due("fault(0) ahead of any", x.fault(0), 0);
        due("fault(1) ahead of any", x.fault(1), NONE);
        String[] texts = {"t", "who;", "t", "who a;what b;when c;", "l", "a", "o", "z.", "a", "total 1", "a", "total",
            "l", "a.", "o", "a a", "t", "limit 0;", "l", "a."};
        int[] faults = {1, 0, 1, 3, 0, 1, 0, 1, 2, 0};
        int[] places = {3, NONE, 1, 0, NONE, 5, NONE, 2, 6, NONE};
        for (int k = 0; k < faults.length; k++) {
            Bench.tell(x, texts[2 * k + 1]);
            switch (texts[2 * k].charAt(0)) {
                case 't' -> x.tongue();
                case 'a' -> x.ask();
                default -> x.law(texts[2 * k].equals("o"));
            }
            x.restore();
            x.put(0, 0);
            x.image();
            due("fault(0) of " + texts[2 * k + 1], x.fault(0), faults[k]);
            due("fault(1) of " + texts[2 * k + 1], x.fault(1), places[k]);
            due("fault(-1)", x.fault(-1), NONE);
            due("fault(2)", x.fault(2), NONE);
        }
        Bench.tell(x, "who;");
        x.tongue();
        dueNoneFar("fault", what -> x.fault(what));
    }

    /** "NONE for others." */
    private void has() {
        speak(PARTIES);
        dueWithin("has", what -> x.has(what), 0, 10);
        for (int acts = 0; acts < 23; acts++) {
            due("has(10) of " + acts, x.has(10), Math.min(acts, 20));
            law("a.");
        }
    }

    /** "Letter k (0 .. 5) of a WORD's SIGN (0 .. 17), of PARTY 20 and on: 1 .. 26; 0 behind it". */
    private void letter() {
        speak("who a;what abcdef;when vwxyz;like z a;party zyxwvu votes 1;");
        int[] signs = {0, 4, 8, 12, 20};
        int[][] letters = {{1, 0, 0, 0, 0, 0}, {1, 2, 3, 4, 5, 6}, {22, 23, 24, 25, 26, 0}, {26, 0, 0, 0, 0, 0},
            {26, 25, 24, 23, 22, 21}};
        for (int row = 0; row < signs.length; row++) {
            int sign = signs[row];
            for (int k = 0; k < 6; k++) {
                due("letter(" + sign + ", " + k + ")", x.letter(sign, k), letters[row][k]);
            }
            dueWithin("letter k of " + sign, k -> x.letter(sign, k), 0, 5);
        }
        dueNoneFar("letter sign", sign -> x.letter(sign, 0));
    }

    /** "NONE when there is none such": as many of each sort as there are. */
    private void lettersAsThereAre() {
        for (int count = 1; count <= 6; count++) {
            int four = Math.min(count, 4);
            int five = Math.min(count, 5);
            StringBuilder text = new StringBuilder(tongueOf(four, four, four));
            speak(text + row("like m% a;", count) + row("party p% votes 1;", five));
            int[] firsts = {0, 4, 8, 12, 20};
            int[] counts = {four, four, four, count, five};
            int[] mosts = {4, 4, 4, 6, 5};
            for (int kind = 0; kind < 5; kind++) {
                for (int k = 0; k < mosts[kind]; k++) {
                    int got = x.letter(firsts[kind] + k, 0);
                    int wanted = kind == 3 ? 13 : kind == 4 ? 16 : 4 * kind + k + 1;
                    due("letter(" + (firsts[kind] + k) + ", 0)", got, k < counts[kind] ? wanted : NONE);
                }
            }
            for (int sign : new int[] {-1, 18, 19, 25, 26}) {
                due("letter(" + sign + ", 0)", x.letter(sign, 0), NONE);
            }
        }
    }

    // ---- promises 9 to 14

    /** "how many SIGNS (k NONE), the k-th; NONE when there is none such." */
    private void sign() {
        speak(FOUR);
        due("sign(false, NONE) of nothing", x.sign(false, NONE), 0);
        due("sign(true, 0) of nothing", x.sign(true, 0), NONE);
        law("a.".repeat(30));
        other("b.");
        for (boolean other : new boolean[] {false, true}) {
            int last = other ? 1 : 59;
            due("sign(.., NONE)", x.sign(other, NONE), last + 1);
            due("the first", x.sign(other, 0), other ? 1 : 0);
            due("the last", x.sign(other, last), STOP);
            due("beyond it", x.sign(other, last + 1), NONE);
            due("sign(.., -2)", x.sign(other, -2), NONE);
            dueNoneFar("sign", k -> x.sign(other, k));
        }
    }

    /** "4 (of THE LAW) ..; NONE for others." */
    private void size() {
        speak(FOUR);
        law("a and e.b.".repeat(8));
        dueWithin("size(false, ..)", what -> x.size(false, what), 0, 4);
        dueWithin("size(true, ..)", what -> x.size(true, what), 0, 3);
        int[] wanted = {32, 16, 3, 16, 1};
        for (int what = 0; what < 5; what++) {
            due("size(false, " + what + ")", x.size(false, what), wanted[what]);
            due("size(true, " + what + ") of nothing", x.size(true, what), what == 4 ? NONE : 0);
        }
        other("a.".repeat(30));
        due("30 sentences", x.size(true, 1), 30);
        due("one sentence more than one", x.size(true, 3), 30);
    }

    /** "3 SENTENCES without which it would forbid the same": none, one, all. */
    private void idleSentences() {
        speak(FOUR);
        String[] texts = {"", "a.", "a and not a.", "a.b.", "a.a.", "a.i.", "a.b.i.", "a.b.a.", "a.a and e.", "a.e.f.",
            "a and e.b and f.a.b."};
        int[] wanted = {0, 0, 1, 0, 2, 1, 3, 2, 1, 1, 2};
        for (int k = 0; k < texts.length; k++) {
            law(texts[k]);
            due("size(false, 3) of " + texts[k], x.size(false, 3), wanted[k]);
        }
    }

    private void forbids() {
        speak(FOUR);
        law("a.");
        for (boolean other : new boolean[] {false, true}) {
            dueWithin("forbids", number -> x.forbids(other, number), 0, 3);
        }
        speak("who a;what e;");
        due("forbids(false, 0) without cases", x.forbids(false, 0), NONE);
    }

    /** "THE LAW's k-th SENTENCE by which a CASE is borne: its number; NONE when there is none such." */
    private void borne() {
        speak(FOUR);
        law("b." + "a.".repeat(29));
        for (int k = 0; k < 29; k++) {
            due("borne(0, " + k + ")", x.borne(0, k), k + 1);
        }
        due("borne(0, 29)", x.borne(0, 29), NONE);
        due("borne(1, 0)", x.borne(1, 0), 0);
        due("borne(1, 1)", x.borne(1, 1), NONE);
        due("borne(0, -1)", x.borne(0, -1), NONE);
        dueNoneFar("borne k", k -> x.borne(0, k));
        dueWithin("borne number", number -> x.borne(number, 0), 0, 3);
        law("b.");
        due("borne of a free case", x.borne(0, 0), NONE);
    }

    /** "The k-th place of a SIGN that bears a CASE; NONE when there is none such." */
    private void led() {
        speak(FOUR);
        law("not ".repeat(38) + "a.");
        for (int k = 0; k < 38; k++) {
            due("led(0, " + k + ")", x.led(0, k), k);
        }
        due("led(0, 38)", x.led(0, 38), NONE);
        due("led(0, -1)", x.led(0, -1), NONE);
        due("led of a free case", x.led(1, 0), NONE);
        dueNoneFar("led k", k -> x.led(0, k));
        dueNoneFar("led number", number -> x.led(number, 0));
        due("led(-1, 0)", x.led(-1, 0), NONE);
        due("led(4, 0)", x.led(4, 0), NONE);
        law("not b.");
        dueWithinLed(0, 0);
        dueWithinLed(2, 0);
        due("led(3, 0) of a free case", x.led(3, 0), NONE);
    }

    private void dueWithinLed(int number, int place) {
        due("led(" + number + ", 0)", x.led(number, 0), place);
        due("led(" + number + ", 1)", x.led(number, 1), NONE);
    }

    /** "without that SIGN the row is LAWFUL (whatever THE PEACE is) and does not forbid it". */
    private void ledWithoutMore() {
        speak(FOUR + "peace forbid a e i;");
        law("not b and not f.");
        due("the first place", x.led(0, 0), 0);
        due("the second place", x.led(0, 1), 3);
        due("no third place", x.led(0, 2), NONE);
        law("not b.not f.");
        due("another sentence bears it, too", x.led(0, 0), NONE);
        due("led(2, 0)", x.led(2, 0), 0);
        due("led(1, 0)", x.led(1, 0), 3);
        due("led(1, 1)", x.led(1, 1), NONE);
        law("a.");
        due("a word is no sign that may go", x.led(0, 0), NONE);
        restored(3, NOT, 0, STOP, 0, sealOf(3, NOT, 0, STOP, 0));
        due("free, though it would be forbidden without the sign", x.led(0, 0), NONE);
        due("led(1, 0)", x.led(1, 0), 0);
    }

    /** "NONE when there is none such, or that is not LAWFUL." */
    private void price() {
        speak(FOUR + "peace forbid a e i;");
        due("price(0) of the empty law", x.price(0), NONE);
        law("not b and not f.");
        int[] wanted = {2, NONE, NONE, 2, NONE, NONE};
        for (int place = 0; place < wanted.length; place++) {
            due("price(" + place + ")", x.price(place), wanted[place]);
        }
        due("price(-1)", x.price(-1), NONE);
        due("price(6)", x.price(6), NONE);
        dueNoneFar("price", place -> x.price(place));
        law("a.not b.");
        due("two cases otherwise", x.price(2), 2);
        law("not b.a.");
        due("two more", x.price(0), 2);
        law("i.not b.");
        due("none otherwise", x.price(2), 0);
        law("not not a.");
        due("all otherwise", x.price(1), 4);
    }

    // ---- promises 15 to 19

    /** "NONE, refused (2), when that is no CHANGE": all stays. */
    private void refusedChanges() {
        speak(PARTIES + "peace forbid a e i;");
        law("a.");
        law("a and not f.");
        other("b.");
        x.image();
        String before = told();
        int[][] tries = {{0, 0, NOT}, {0, 0, 1}, {0, 4, STOP}, {0, 6, NOT}, {0, -1, NOT}, {0, 0, 23}, {0, 0, -1},
            {0, 0, 2},
            {1, 0, 0}, {1, 2, 0}, {1, 4, 0}, {1, 5, 0}, {1, -1, 0}, {2, 0, 0}, {2, 0, 1}, {2, 0, 2}, {2, 0, AND},
            {2, 3, 4}, {2, 5, 0}, {2, -1, 0}, {2, 0, 23}, {2, 0, -1}, {2, 4, 0}, {2, 1, NOT}};
        for (int k = 0; k < tries.length; k++) {
            int place = tries[k][1];
            int sign = tries[k][2];
            int got = tries[k][0] == 0 ? x.put(place, sign) : tries[k][0] == 1 ? x.strike(place) : x.swap(place, sign);
            due("refused " + Arrays.toString(tries[k]), got, NONE);
            due("status(2)", x.status(2), k + 1);
        }
        dueStays("what is no change", before);
        due("a change", x.swap(3, 1), 4);
        due("status(2)", x.status(2), tries.length);
    }

    /** "(the last 20 can be): true; false, refused (3), when none can be." */
    private void lastTwentyActs() {
        for (int acts : new int[] {0, 1, 19, 20, 21, 22, 45}) {
            speak(FOUR);
            for (int k = 1; k <= acts; k++) {
                law("a.".repeat(k % 30 + 1));
            }
            int kept = Math.min(acts, 20);
            due("has(10) of " + acts, x.has(10), kept);
            for (int k = 1; k <= kept; k++) {
                due("undo() " + k + " of " + acts, x.undo(), true);
                int left = acts - k;
                due("signs behind it", x.sign(false, NONE), left == 0 ? 0 : 2 * (left % 30 + 1));
                due("has(10) behind it", x.has(10), kept - k);
            }
            due("undo() of no more", x.undo(), false);
            due("undo() of no more", x.undo(), false);
            due("status(3)", x.status(3), 2);
            due("all stays", x.sign(false, NONE), acts <= 20 ? 0 : 2 * ((acts - 20) % 30 + 1));
            law("b.");
            due("an act behind it", x.has(10), 1);
            due("it can be undone", x.undo(), true);
        }
    }

    /** All of 60 SIGNS, each another one. */
    private void lastTwentyLongActs() {
        speak(FOUR);
        for (int act = 0; act < 25; act++) {
            law("a.".repeat(act) + "b." + "a.".repeat(29 - act));
        }
        for (int act = 23; act > 3; act--) {
            due("undo() to act " + act, x.undo(), true);
            for (int k = 0; k < 60; k += 2) {
                if (k == 58 || k / 2 - act < 2 && k / 2 - act > -2) {
                    due("sign(false, " + k + ")", x.sign(false, k), k == 2 * act ? 1 : 0);
                }
            }
            due("sign(false, NONE)", x.sign(false, NONE), 60);
        }
        due("undo() of no more", x.undo(), false);
    }

    /**
     * "law() of THE LAW (also with the same SIGNS), put(), strike(), swap(), spring(), stroke() that did something".
     */
    private void undoOfEachKind() {
        for (int kind = 0; kind < 7; kind++) {
            speak(FOUR + "party p votes 1;wish p forbid b any any worth 1;");
            law("not not a.");
            other("e.");
            x.seed(0);
            int did = switch (kind) {
                case 0 -> law("b.");
                case 1 -> law("not not a.");
                case 2 -> x.put(0, NOT);
                case 3 -> x.strike(0);
                case 4 -> x.swap(2, 5);
                case 5 -> x.spring(1);
                default -> x.stroke();
            };
            due("act " + kind + " was done", did >= 0, true);
            due("has(10) of act " + kind, x.has(10), 2);
            due("undo() of act " + kind, x.undo(), true);
            dueSigns("act " + kind + " undone", false, NOT, NOT, 0, STOP);
            dueSigns("the other law", true, 4, STOP);
            due("forbids(false, 0) again", x.forbids(false, 0), 1);
            due("has(10)", x.has(10), 1);
            due("undo() of the law", x.undo(), true);
            dueSigns("the first law", false);
            due("undo() of nothing", x.undo(), false);
        }
    }

    /** What did nothing to THE LAW can't be undone. */
    private void noActs() {
        speak(FOUR);
        law("a.");
        other("b.");
        law("z.");
        other("z.");
        x.put(0, 0);
        x.strike(0);
        x.swap(0, 0);
        due("spring(20) at rest", x.spring(20), 0);
        x.spring(21);
        // The draw of 2 from seed 1 on is 0: the word, which may not be struck.
        due("stroke() that strikes nothing", x.stroke(), NONE);
        x.seed(5);
        ask("total 1");
        x.image();
        x.restore();
        x.led(0, 0);
        x.price(0);
        x.way();
        x.rest();
        tongue("x");
        due("has(10)", x.has(10), 1);
        due("undo()", x.undo(), true);
        dueSigns("the law ahead of the only act", false);
        due("undo() of nothing", x.undo(), false);
    }

    /** "put (what 0), struck (1), another SIGN (2). NONE for others." */
    private void changes() {
        speak(FOUR);
        for (int what = 0; what < 3; what++) {
            due("changes(" + what + ") of nothing", x.changes(what), 0);
        }
        dueWithin("changes", what -> x.changes(what), 0, 2);
        law("a.");
        due("changes(0) of a", x.changes(0), 1);
        due("changes(1) of a", x.changes(1), 0);
        due("changes(2) of a", x.changes(2), 4);
        law("a.e.");
        due("changes(0) of two", x.changes(0), 2);
        due("changes(1) of two", x.changes(1), 0);
        // Four words each, and and, or, unless for the stop between.
        due("changes(2) of two", x.changes(2), 4 + 3 + 4);
        due("no act", x.has(10), 2);
    }

    // ---- promises 20 to 25

    /** "NONE without, when there is none such, or for others." */
    private void fewest() {
        speak(FOUR);
        for (boolean other : new boolean[] {false, true}) {
            dueWithin("fewest of nothing", what -> x.fewest(other, what), 0, 1);
            due("fewest of nothing, 3", x.fewest(other, 3), NONE);
        }
        law("a.");
        other("a.e.");
        dueWithin("fewest of one sentence", what -> x.fewest(false, what), 0, 2);
        due("fewest(false, 4)", x.fewest(false, 4), NONE);
        dueWithin("fewest of two sentences", what -> x.fewest(true, what), 0, 3);
        speak(tongueOf(3, 3, 1));
        law("a and e.b and f.c and g.");
        for (int what = -1; what < 5; what++) {
            due("fewest of three sentences, " + what, x.fewest(false, what), NONE);
        }
        due("fewest(true, 0) of nothing", x.fewest(true, 0), 0);
    }

    /** "NONE when there is none such, or for others." */
    private void brief() {
        speak(ONE);
        due("shorts()", x.shorts(), 114);
        for (int what = 0; what < 3; what++) {
            int asked = what;
            dueWithin("brief(.., " + what + ")", sentence -> x.brief(sentence, asked), 0, 113);
        }
        dueWithin("brief(0, ..)", what -> x.brief(0, what), 0, 2);
        dueWithin("brief(113, ..)", what -> x.brief(113, what), 0, 2);
        speak("");
        for (int what = -1; what < 4; what++) {
            due("brief(0, " + what + ") of nothing", x.brief(0, what), NONE);
        }
    }

    /** "(0, when both have the same SIGNS); NONE when 3 are not enough." */
    private void way() {
        speak(FOUR + "like g a;");
        law("a.");
        String[] others = {"a.", "g.", "not a.", "not not a.", "not not g.", "not not not a.", "not not not g.",
            "not not not not a.", "b.e.", ""};
        int[] wanted = {0, 1, 1, 2, 3, 3, NONE, NONE, NONE, NONE};
        for (int k = 0; k < others.length; k++) {
            other(others[k]);
            due("way() to " + others[k], x.way(), wanted[k]);
        }
        due("way() is no act", x.has(10), 1);
        dueSigns("way() changes nothing", false, 0, STOP);
    }

    /**
     * "The k-th CASE that THE LAW leaves free and THE OTHER forbids (forward true: a hole), or the other way about".
     */
    private void hole() {
        speak(tongueOf(4, 4, 4));
        other("a or not a.");
        for (int k = 0; k < 64; k++) {
            due("hole(true, " + k + ")", x.hole(true, k), k);
        }
        dueWithin("hole(true, ..)", k -> x.hole(true, k), 0, 63);
        due("hole(false, 0)", x.hole(false, 0), NONE);
        law("d and h and l.");
        other("a and e and i.");
        due("hole(true, 0)", x.hole(true, 0), 0);
        due("hole(true, 1)", x.hole(true, 1), NONE);
        due("hole(false, 0)", x.hole(false, 0), 63);
        due("hole(false, 1)", x.hole(false, 1), NONE);
        due("hole(false, -1)", x.hole(false, -1), NONE);
        dueNoneFar("hole(false, ..)", k -> x.hole(false, k));
    }

    /** "The first CASE that parts both LAWS; NONE when they mean the same." */
    private void parts() {
        speak(tongueOf(4, 4, 4));
        due("parts() of empty laws", x.parts(), NONE);
        law("a.");
        other("not b and not c and not d.");
        due("parts() of the same meaning", x.parts(), NONE);
        other("a.d and h and l.");
        due("the last case", x.parts(), 63);
        other("a unless e and i.");
        due("the first case", x.parts(), 0);
        law("a or not a.");
        other("");
        due("all cases", x.parts(), 0);
    }

    // ---- promises 26 to 29

    /** "NONE when there is none such." */
    private void worth() {
        for (int parties = 0; parties <= 5; parties++) {
            speak(ONE + row("party p% votes 1;", parties));
            for (boolean other : new boolean[] {false, true}) {
                for (int party = 0; party < parties; party++) {
                    due("worth without wishes", x.worth(other, party), 0);
                }
                dueWithin("worth", party -> x.worth(other, party), 0, parties - 1);
            }
        }
        speak(tongueOf(4, 4, 4) + "party p votes 1;" + "wish p forbid any any any worth 99;".repeat(8)
            + "wish p free any any any worth 99;".repeat(7) + "wish p forbid d h l worth 1;");
        law("a or not a.");
        due("all forbidden", x.worth(false, 0), 8 * 64 * 99 + 1);
        due("all free", x.worth(true, 0), 7 * 64 * 99);
        other("d and h and l.");
        due("the last case forbidden", x.worth(true, 0), 7 * 63 * 99 + 8 * 99 + 1);
    }

    /** "Votes for THE OTHER LAW in THE LAW's place (for true), against it." */
    private void votes() {
        speak(ONE + row("party p% votes 9;", 5) + row("wish p% forbid a b c worth 1;", 5));
        due("votes(true) of the same", x.votes(true), 0);
        due("votes(false) of the same", x.votes(false), 0);
        other("a.");
        due("all for", x.votes(true), 45);
        due("none against", x.votes(false), 0);
        law("a.");
        other("");
        due("none for", x.votes(true), 0);
        due("all against", x.votes(false), 45);
        due("other signs of the same meaning", law("not not not not a."), 5);
        other("a.");
        due("none for the same meaning", x.votes(true), 0);
        due("none against the same meaning", x.votes(false), 0);
    }

    /** "AT REST is THE LAW, if none is VOTED." */
    private void rest() {
        speak(PARTIES);
        due("rest() of the empty law, which has no change", x.rest(), 1);
        law("e.");
        due("rest() of what is voted", x.rest(), 0);
        due("rest() is no act", x.has(10), 1);
        law("a.");
        due("one vote is enough", x.rest(), 1);
        speak(ONE + "party p votes 1;wish p forbid a b c worth 1;");
        law("a and not a.");
        due("rest() of nothing forbidden", x.rest(), 0);
        law("a.");
        due("rest() of all that is wished", x.rest(), 1);
    }

    /** "n SPRINGS (1 .. 20) ..; NONE, refused (2), when n can't be": where no law is at rest. */
    private void springsOfOneToTwenty() {
        for (int n = 1; n <= 20; n++) {
            speak(CIRCLE);
            law("a.");
            due("spring(" + n + ")", x.spring(n), n);
            dueSigns("spring(" + n + ")", false, new int[] {0, 2, 1}[n % 3], STOP);
            due("has(10) of spring(" + n + ")", x.has(10), Math.min(20, n + 1));
            due("not at rest", x.rest(), 0);
        }
        for (int k = 0; k < 20; k++) {
            due("undo() of one spring", x.undo(), true);
        }
        dueSigns("all springs undone", false, 0, STOP);
        due("the law's act is the 21st", x.undo(), false);
        String before = told();
        int[] wrong = {0, -1, 21, 22};
        for (int n : wrong) {
            due("spring(" + n + ")", x.spring(n), NONE);
        }
        for (int far : FAR) {
            due("spring(" + far + ")", x.spring(far), NONE);
        }
        due("status(2)", x.status(2), wrong.length + FAR.length);
        dueStays("springs that can't be", before);
    }

    /** "till it is AT REST: how many there were". */
    private void springTillAtRest() {
        speak("who a;who b;who c;what d;when e;limit 1;party p votes 1;wish p free a any any worth 1;"
            + "wish p free b any any worth 2;wish p free c any any worth 3;");
        law("c.");
        due("spring(1): a for c", x.spring(1), 1);
        due("spring(20) at rest", x.spring(20), 0);
        law("e.");
        // a is the first word, and is more than all.
        due("spring(20)", x.spring(20), 1);
        law("b.");
        due("spring(2)", x.spring(2), 1);
        due("acts", x.has(10), 6);
        due("no refusal", x.status(2), 0);
    }

    // ---- promises 30 to 34

    /** "how many CASES all of them forbid (1; 0 when there are none), how many some do (2). NONE for others." */
    private void fitting() {
        speak(ONE);
        dueWithin("fitting", what -> x.fitting(what), 0, 2);
        speak(ONE + "judged forbid a b c;");
        int[] wanted = {48, 1, 1};
        for (int what = 0; what < 3; what++) {
            due("fitting(" + what + ")", x.fitting(what), wanted[what]);
        }
        speak(ONE + "judged forbid a b c;judged free a b c;");
        for (int what = 0; what < 3; what++) {
            due("fitting(" + what + ") of none", x.fitting(what), 0);
        }
        speak("");
        for (int what = 0; what < 3; what++) {
            due("fitting(" + what + ") without words", x.fitting(what), 0);
        }
        // a, and what is more, forbids a: with judged free b all that fit forbid the two cases of a alone.
        speak(FOUR + "judged forbid a any any;judged free b any any;");
        due("fitting(1) of a", x.fitting(1), 2);
        due("fitting(2) of a", x.fitting(2), 2);
        // Case 0 is forbidden by all that fit, each other one by some: a, e, i.
        speak(FOUR + "judged forbid a e i;");
        due("fitting(1) of case 0", x.fitting(1), 1);
        due("fitting(2) of case 0", x.fitting(2), 4);
        speak(FOUR + "judged free b f i;");
        due("fitting(1) of all but case 3", x.fitting(1), 0);
        due("fitting(2) of all but case 3", x.fitting(2), 3);
        // Of the three on the diagonal no short sentence forbids all and nothing else.
        speak(tongueOf(3, 3, 1) + "judged forbid a e i;judged forbid b f i;judged forbid c g i;judged free a f i;"
            + "judged free a g i;judged free b e i;judged free b g i;judged free c e i;judged free c f i;");
        due("fitting(0) of none", x.fitting(0), 0);
        due("fitting(1) of none", x.fitting(1), 0);
        due("fitting(2) of none", x.fitting(2), 0);
    }

    /** "the first JUDGMENT by which it does not; NONE when it does by all." */
    private void judged() {
        StringBuilder text = new StringBuilder(tongueOf(4, 4, 1));
        for (int k = 0; k < 10; k++) {
            text.append("judged forbid ").append("abcd".charAt(k % 4));
            text.append(' ').append("efg".charAt(k / 4)).append(" i;");
        }
        speak(text.toString());
        String[] laws = {"", "a.", "a.b.", "a.b.c.", "e.", "e.a.", "e.f.", "e.f.a.", "e.f.g.", "e.f.g unless b.", "i."};
        int[] wanted = {0, 1, 2, 3, 4, 5, 8, 9, NONE, 9, NONE};
        for (int k = 0; k < laws.length; k++) {
            law(laws[k]);
            due("judged() of " + laws[k], x.judged(), wanted[k]);
        }
        speak(tongueOf(2, 2, 1));
        law("a.");
        due("judged() without judgments", x.judged(), NONE);
        speak("who a;judged forbid a any any;judged free any any any;");
        due("judged() without cases", x.judged(), NONE);
    }

    /** "(One of many CASES is kept, if all of these are so.)" */
    private void judgedOfManyCases() {
        speak(tongueOf(4, 4, 4) + "judged forbid any any any;");
        law("i or not i.");
        due("all forbidden", x.judged(), NONE);
        law("not a or not e or not i.");
        due("all but the first", x.judged(), 0);
        law("not d or not h or not l.");
        due("all but the last", x.judged(), 0);
        speak(tongueOf(4, 4, 4) + "judged free any any any;");
        due("all free", x.judged(), NONE);
        law("a and e and i.");
        due("all but the first", x.judged(), 0);
        law("d and h and l.");
        due("all but the last", x.judged(), 0);
    }

    /** "false, refused (4), when it is below 0. (It is 1 at first.)" */
    private void seed() {
        x = new HundredWords();
        due("seed(0)", x.seed(0), true);
        due("seed(most)", x.seed(Integer.MAX_VALUE), true);
        due("status(4)", x.status(4), 0);
        due("seed(-1)", x.seed(-1), false);
        due("seed(least)", x.seed(Integer.MIN_VALUE), false);
        due("status(4)", x.status(4), 2);
        // From 1 on: x is 1103527590, by 64 17242618, of 4 that is 2; from 0 on: 12345, 192, 0.
        speak(FOUR);
        law("not not a.");
        due("the seed is 1 at first", x.stroke(), NONE);
        due("seed(0)", x.seed(0), true);
        due("seed(-1) leaves it", x.seed(-1), false);
        due("stroke() from 0", x.stroke(), 0);
        speak(FOUR);
        law("not not a.");
        due("seed(1)", x.seed(1), true);
        due("stroke() from 1", x.stroke(), NONE);
        due("the second draw: 3", x.stroke(), NONE);
        due("the third draw: 2", x.stroke(), NONE);
        due("the fourth draw: 0", x.stroke(), 0);
    }

    /** "NONE, when nothing is struck (THE LAW is empty, without a DRAW; ..)". */
    private void strokeOfTheEmptyLaw() {
        for (int empty = 0; empty < 5; empty++) {
            speak(FOUR);
            for (int k = 0; k < empty; k++) {
                due("stroke() of the empty law", x.stroke(), NONE);
            }
            law("not not a.");
            due("draw 1: 2", x.stroke(), NONE);
            due("draw 2: 3", x.stroke(), NONE);
            due("draw 3: 2", x.stroke(), NONE);
            due("draw 4: 0", x.stroke(), 0);
            due("acts", x.has(10), 2);
        }
    }

    /** "or that is no CHANGE": not LAWFUL, or against THE PEACE; it is a DRAW all the same, and no refusal. */
    private void strokeOfNoChange() {
        speak(FOUR + "peace forbid a e i;");
        law("not not a.");
        for (int seed : new int[] {0, 1}) {
            x.seed(seed);
            String before = told();
            due("stroke() that would be no change", x.stroke(), NONE);
            dueStays("a stroke of nothing", before);
        }
        due("status(2)", x.status(2), 0);
        speak(FOUR + "peace forbid b f i;");
        due("a law that keeps the peace either way", law("b.not not a."), 4);
        // From 0 on: 192 of 6 is 0, then x is 1406932606, by 64 21983321, of 6 is 5.
        x.seed(0);
        due("the word", x.stroke(), NONE);
        due("the stop", x.stroke(), NONE);
    }

    /** "NONE of first, last, when its TEST holds in none; NOTHING with a FAULT." */
    private void askOfNone() {
        speak(FOUR);
        due("first of none", ask("first case=4"), NONE);
        due("last of none", ask("last case=4"), NONE);
        due("often of none", ask("often case=4"), 0);
        due("a sum of -1", ask("least 0-1"), NONE);
        due("first of the last", ask("first case=3"), 3);
        due("last of the first", ask("last case=0"), 0);
        due("fault(0)", x.fault(0), 0);
        String before = told();
        for (String text : new String[] {"", "x", "total", "total 00001", "first all;", "often [[[[[[[all"}) {
            due("a fault", ask(text), HundredWords.NOTHING);
            due("the tape went", x.end(1), false);
        }
        dueStays("faults of ask()", before);
        due("no refusal", x.status(1), 0);
        due("no act", x.has(10), 0);
    }

    // ---- promises 35 to 38

    /** "Byte k of the latest image(); NONE when there is none such." */
    private void octet() {
        x = new HundredWords();
        for (int k = -1; k < 4; k++) {
            due("octet(" + k + ") ahead of any", x.octet(k), NONE);
        }
        due("image() of empty laws", x.image(), 3);
        dueWithin("octet of 3", k -> x.octet(k), 0, 2);
        speak(FOUR);
        law("a.".repeat(30));
        other("e.".repeat(30));
        due("image() of most", x.image(), 123);
        dueWithin("octet of 123", k -> x.octet(k), 0, 122);
        law("");
        due("image() of fewer", x.image(), 63);
        dueWithin("octet of 63", k -> x.octet(k), 0, 62);
    }

    private void latestImage() {
        speak(FOUR);
        law("a.");
        x.image();
        law("b.not e.");
        x.undo();
        x.undo();
        tongue(ONE);
        restored(0, 0, 135);
        restored(1);
        due("octet(0) stays", x.octet(0), 2);
        due("octet(3) stays", x.octet(3), 0);
        due("octet(4) stays", x.octet(4), sealOf(2, 0, STOP, 0));
        due("octet(5)", x.octet(5), NONE);
    }

    /** The least IMAGE has three bytes. */
    private void restoreOfFewBytes() {
        for (int octet = 0; octet < 256; octet++) {
            speak(PARTIES);
            law("a.");
            due("restore() of " + octet, restored(octet), false);
            due("restore() of 0 and " + octet, restored(0, octet), false);
            due("restore() of 1 and " + octet, restored(1, octet), false);
            due("restore() of 0, 0 and " + octet, restored(0, 0, octet), octet == 135);
            due("status(5)", x.status(5), octet == 135 ? 3 : 4);
            due("the law", x.sign(false, NONE), octet == 135 ? 0 : 2);
        }
    }

    /** "false, refused (5), when it is none (all stays)": bytes too few, too many, or otherwise. */
    private void restoreOfWrongBytes() {
        speak(PARTIES);
        law("a.");
        law("a and e.");
        other("b.");
        x.image();
        int[] image = {4, 0, AND, 4, STOP, 2, 1, STOP, sealOf(4, 0, AND, 4, STOP, 2, 1, STOP)};
        for (int k = 0; k < image.length; k++) {
            due("octet(" + k + ")", x.octet(k), image[k]);
        }
        String before = told();
        int refused = 0;
        for (int length = 0; length < image.length; length++) {
            due("restore() of " + length + " bytes", restored(Arrays.copyOf(image, length)), false);
            due("status(5)", x.status(5), ++refused);
            due("the tape went", x.end(1), false);
        }
        for (int more : new int[] {0, 32, sealOf(image), 255}) {
            int[] longer = Arrays.copyOf(image, image.length + 1);
            longer[image.length] = more;
            due("restore() of a byte more", restored(longer), false);
            due("status(5)", x.status(5), ++refused);
        }
        for (int k = 0; k < image.length; k++) {
            for (int off : new int[] {1, 255}) {
                int[] wrong = image.clone();
                wrong[k] = wrong[k] + off & 255;
                due("restore() of a wrong byte " + k, restored(wrong), false);
                due("status(5)", x.status(5), ++refused);
            }
        }
        dueStays("images that are none", before);
        due("restore() of the image", restored(image), true);
        due("status(5)", x.status(5), refused);
    }

    /** "It is taken, if both are LAWFUL." */
    private void restoreOfUnlawfulRows() {
        speak(PARTIES);
        int[][] rows = {{0}, {STOP}, {NOT, STOP}, {0, 1, STOP}, {0, STOP, STOP}, {0, AND, STOP}, {0, NOT, 1, STOP},
            {0, UNLESS, 1, UNLESS, 0, STOP}, {2, STOP}, {13, STOP}, {17, STOP}, {0, 23, 0, STOP}, {23}, {255, STOP},
            {0, STOP, 4}, {NOT, NOT, NOT, NOT, NOT, NOT, NOT, NOT, NOT, 0, STOP}};
        for (int[] row : rows) {
            due("restore() of " + Arrays.toString(row), restored(imageOf(row, new int[0])), false);
            due("restore() of other " + Arrays.toString(row), restored(imageOf(new int[0], row)), false);
            due("restore() of both " + Arrays.toString(row), restored(imageOf(row, row)), false);
        }
        due("status(5)", x.status(5), 3 * rows.length);
        int[][] lawful = {{}, {0, STOP}, {12, STOP}, {NOT, 8, STOP}, {1, UNLESS, 5, STOP}, {0, STOP, 4, OR, 12, STOP},
            {NOT, NOT, NOT, NOT, NOT, NOT, NOT, NOT, 0, STOP}};
        for (int[] row : lawful) {
            due("restore() of " + Arrays.toString(row), restored(imageOf(row, new int[0])), true);
            dueSigns("restored", false, row);
            due("restore() of other " + Arrays.toString(row), restored(imageOf(new int[0], row)), true);
            dueSigns("restored other", true, row);
        }
        due("status(5)", x.status(5), 3 * rows.length);
    }

    private static int[] imageOf(int[] law, int[] other) {
        int[] image = new int[law.length + other.length + 3];
        image[0] = law.length;
        System.arraycopy(law, 0, image, 1, law.length);
        image[law.length + 1] = other.length;
        System.arraycopy(other, 0, image, law.length + 2, other.length);
        image[image.length - 1] = sealOf(Arrays.copyOf(image, image.length - 1));
        return image;
    }

    /** A lawful row but for its length: so many SENTENCES of one word, the first with a not where the length is odd. */
    private static int[] longRow(int length) {
        int[] row = new int[length];
        for (int k = 0; k < length; k++) {
            row[k] = k == 0 && length % 2 == 1 ? NOT : (length - k) % 2 == 1 ? STOP : 0;
        }
        return row;
    }

    /** 60 SIGNS and as many WORDS as the limit, not one more, for each of the two. */
    private void restoreToTheLimits() {
        speak(FOUR);
        for (int length = 56; length < 66; length++) {
            due("restore() of " + length + " signs", restored(imageOf(longRow(length), new int[0])), length <= 60);
            due("restore() of other " + length, restored(imageOf(new int[0], longRow(length))), length <= 60);
        }
        for (int more : new int[] {0, NOT, STOP, 23, 255}) {
            int[] row = Arrays.copyOf(longRow(60), 61);
            row[60] = more;
            due("restore() of 60 and " + more, restored(imageOf(row, new int[0])), false);
            due("restore() of other 60 and " + more, restored(imageOf(new int[0], row)), false);
        }
        due("restore() of 60 and 60", restored(imageOf(longRow(60), longRow(60))), true);
        due("restore() of 60 and 61", restored(imageOf(longRow(60), longRow(61))), false);
        due("sign(false, NONE)", x.sign(false, NONE), 60);
        due("sign(true, 59)", x.sign(true, 59), STOP);
        for (int limit : new int[] {1, 2, 29}) {
            speak(FOUR + "limit " + limit + ";");
            due("restore() to the limit", restored(imageOf(longRow(2 * limit), longRow(2 * limit))), true);
            due("restore() above the limit", restored(imageOf(longRow(2 * limit + 1), new int[0])), false);
            due("restore() of other above it", restored(imageOf(new int[0], longRow(2 * limit + 1))), false);
            due("size(false, 0)", x.size(false, 0), limit);
        }
    }

    /** "true, both LAWS are as it tells, nothing can be undone". */
    private void restoreKeepsOrTakes() {
        speak(PARTIES + "peace forbid a e i;");
        law("a.");
        law("e.");
        x.seed(0);
        due("restore() against the peace", restored(imageOf(new int[] {1, STOP}, new int[] {5, STOP})), true);
        dueSigns("the law", false, 1, STOP);
        dueSigns("the other law", true, 5, STOP);
        due("has(10)", x.has(10), 0);
        due("undo()", x.undo(), false);
        due("size(false, 4)", x.size(false, 4), 0);
        due("forbids(false, 1)", x.forbids(false, 1), 1);
        due("forbids(true, 3)", x.forbids(true, 3), 1);
        due("the tape went", x.end(1), false);
        due("no change keeps what was not kept", x.put(0, NOT), 2);
        due("it keeps the peace", x.size(false, 4), 1);
        due("an act", x.has(10), 1);
        law("not not a.");
        due("the seed stays: against the peace", x.stroke(), NONE);
        due("fault(0) is of the latest text", x.fault(0), 0);
    }

    /** "NONE for others"; each refusal is counted once, where it belongs. */
    private void status() {
        speak(FOUR);
        dueWithin("status", what -> x.status(what), 0, 5);
        int[] wanted = new int[6];
        for (int turn = 0; turn < 3; turn++) {
            x.end(1);
            x.end(-1);
            dueStatus(wanted, 0, 2);
            tongue("x");
            law("x");
            other("x");
            dueStatus(wanted, 1, 3);
            x.put(0, 0);
            x.strike(0);
            x.swap(0, 0);
            x.spring(0);
            dueStatus(wanted, 2, 4);
            x.undo();
            dueStatus(wanted, 3, 1);
            x.seed(-1);
            dueStatus(wanted, 4, 1);
            x.restore();
            dueStatus(wanted, 5, 1);
            x.stroke();
            ask("x");
            x.has(11);
            x.price(0);
            x.fewest(false, 9);
            dueStatus(wanted, 0, 0);
        }
        for (int k = 0; k < 81; k++) {
            feedBlanks();
        }
        dueStatus(wanted, 0, 1);
    }

    private void dueStatus(int[] wanted, int what, int more) {
        wanted[what] += more;
        for (int k = 0; k < wanted.length; k++) {
            due("status(" + k + ")", x.status(k), wanted[k]);
        }
    }

    /** "An object is used for at most 512 calls": the last of these is answered as the first was. */
    private void lastCall() {
        x = new HundredWords();
        // "who a;who b;what e;when i;" and "a." take 2 + 2 and 1 + 2 calls.
        x.feed(0x77686f20, 0x613b7768, 0x6f20623b, 0x77686174, 0x20653b77);
        x.feed(0x68656e20, 0x693b2020, BLANKS, BLANKS, BLANKS);
        due("tongue()", x.tongue(), 4);
        x.feed(0x612e2020, BLANKS, BLANKS, BLANKS, BLANKS);
        due("law()", x.law(false), 1);
        for (int call = 6; call <= 510; call++) {
            due("swap, call " + call, x.swap(0, call % 2 == 0 ? 1 : 0), 1);
        }
        due("spring(20), call 511", x.spring(20), 0);
        due("size(false, 2), call 512", x.size(false, 2), 1);
    }
}
