/** Terms II to IV, sentence by sentence: the last input inside each boundary, the first one beyond it. */
public final class MeaningBoundariesTest extends Court {
    /** Cases: 0 a e i, 1 b e i, 2 a f i, 3 b f i. */
    private static final String FOUR = "who a;who b;what e;what f;when i;";
    private static final String ONE = "who a;what b;when c;";
    private static final int HELD = 1000000;

    public static void main(String[] args) {
        MeaningBoundariesTest test = new MeaningBoundariesTest();
        test.cases();
        test.numbersOfCases();
        test.termsFromTheLeft();
        test.behindUnless();
        test.likeWords();
        test.emptyLaw();
        test.peaceOfAllCases();
        test.peaceOfOneCase();
        test.eachPeaceCounts();
        test.peaceWithoutCases();
        test.peaceThatNoLawKeeps();
        test.placesOfPuts();
        test.placesOfStrikes();
        test.placesOfSwaps();
        test.changesWithinTheLimit();
        test.changesWithinSixtySigns();
        test.changesKeepThePeace();
        test.changesOfJoints();
        test.numbersOfSigns();
        test.shortSentences();
        test.literalsInTheirOrder();
        test.oneOrTwoShortSentences();
        test.likeFewest();
        test.waysOfThree();
        test.waysOfOneKindMore();
        test.waysInOneOrder();
        test.waysOfTwentySigns();
        test.wayThroughALongerLaw();
        test.moreVotes();
        test.springsInOrder();
        test.draws();
        test.unknownWords();
        test.openAtOnce();
        test.closedAgain();
        test.heldAtAMillion();
        test.quotients();
        test.partsOfCases();
        test.bornePart();
        test.firstAndLast();
        test.mostAndLeast();
        test.longestQuestion();
        test.sealOfImages();
        test.bench.finish("MeaningBoundariesTest");
    }

    // ---- Term II

    /** "(64 CASES at most; none, if a sort has no WORD)". */
    private void cases() {
        for (int kind = 0; kind < 125; kind++) {
            int whos = kind % 5;
            int whats = kind / 5 % 5;
            int whens = kind / 25;
            int count = whos * whats * whens;
            speak(tongueOf(whos, whats, whens));
            due("has(9)", x.has(9), count);
            due("forbids(false, -1)", x.forbids(false, -1), NONE);
            due("forbids(false, 0)", x.forbids(false, 0), count > 0 ? 0 : NONE);
            due("forbids(true, last)", x.forbids(true, count - 1), count > 0 ? 0 : NONE);
            due("forbids(true, beyond)", x.forbids(true, count), NONE);
            due("often all", ask("often all"), count);
            if (count > 0) {
                law("abcd".charAt(whos - 1) + " and " + "efgh".charAt(whats - 1) + " and " + "ijkl".charAt(whens - 1)
                    + ".");
                due("the last case alone", x.size(false, 2), 1);
                due("forbids(false, last)", x.forbids(false, count - 1), 1);
                due("borne(last, 0)", x.borne(count - 1, 0), 0);
                due("parts()", x.parts(), count - 1);
            }
        }
    }

    /** "its number is (when times the whats, and what) times the whos, and who". */
    private void numbersOfCases() {
        for (int number = 0; number < 24; number++) {
            int who = number % 2;
            int what = number / 2 % 3;
            int when = number / 6;
            speak(tongueOf(2, 3, 4));
            law("ab".charAt(who) + " and " + "efg".charAt(what) + " and " + "ijkl".charAt(when) + ".");
            due("first law=1", ask("first law=1"), number);
            due("size(false, 2)", x.size(false, 2), 1);
            due("forbids", x.forbids(false, number), 1);
            due("its parts", ask("first who=" + who + " and what=" + what + " and when=" + when), number);
        }
    }

    private void dueForbidden(String law, int... cases) {
        due("law of " + law, law(law) > 0, true);
        due("size(false, 2) of " + law, x.size(false, 2), cases.length);
        for (int k = 0; k < cases.length; k++) {
            due(law + " forbids " + cases[k], x.forbids(false, cases[k]), 1);
        }
    }

    /** "TERMS from the left on: and: if they held and this TERM does; or: if one does"; "not: if the TERM does not". */
    private void termsFromTheLeft() {
        speak(FOUR);
        dueForbidden("a.", 0, 2);
        dueForbidden("not a.", 1, 3);
        dueForbidden("not not a.", 0, 2);
        dueForbidden("not not not a.", 1, 3);
        dueForbidden("a and e.", 0);
        dueForbidden("a or e.", 0, 1, 2);
        dueForbidden("a or b and e.", 0, 1);
        dueForbidden("e and b or a.", 0, 1, 2);
        dueForbidden("a and not e.", 2);
        dueForbidden("not a and e.", 1);
        dueForbidden("not a or not e.", 1, 2, 3);
        dueForbidden("a and b or e and not a.", 1);
        dueForbidden("a or b and e or f and b.", 1, 3);
    }

    /** "if its TERMS hold, and those behind unless (if there are some) do not". */
    private void behindUnless() {
        speak(FOUR);
        dueForbidden("a unless e.", 2);
        dueForbidden("a unless not e.", 0);
        dueForbidden("i unless a and e.", 1, 2, 3);
        dueForbidden("i unless a or e.", 3);
        dueForbidden("a and i unless e.", 2);
        dueForbidden("b and i unless a or b and e.", 3);
        dueForbidden("a or e unless b and i.", 0, 2);
        dueForbidden("not a unless f.b and a.", 1);
        dueForbidden("a unless a.");
        dueForbidden("a unless b.", 0, 2);
    }

    /**
     * "a new WORD that means what the second one does": the first and the last LIKE one, of each WORD, and of one
     * another.
     */
    private void likeWords() {
        for (int word = 0; word < 12; word++) {
            char meant = (char) ('a' + word);
            speak(tongueOf(4, 4, 4) + "like m " + meant + ";like n m;like o n;like p " + meant + ";like q m;like r q;");
            other(meant + ".");
            for (char like = 'm'; like <= 'r'; like++) {
                due("law of " + like, law(like + "."), 1);
                due(like + " means " + meant, x.parts(), NONE);
                due("size(false, 2) of " + like, x.size(false, 2), 16);
            }
        }
    }

    /** "(The LAW without a SENTENCE forbids nothing. It is THE LAW at first, and behind a TONGUE.)" */
    private void emptyLaw() {
        speak(tongueOf(4, 4, 4));
        for (int number = 0; number < 64; number++) {
            due("forbids(false, " + number + ") of the empty law", x.forbids(false, number), 0);
        }
        dueSigns("behind a tongue", false);
        law("a.");
        due("size(false, 2) of a", x.size(false, 2), 16);
        due("the empty law again", law(""), 0);
        due("size(false, 1)", x.size(false, 1), 0);
        due("size(false, 2)", x.size(false, 2), 0);
        law("a.");
        tongue(tongueOf(1, 1, 1));
        dueSigns("behind another tongue", false);
        due("forbids(false, 0)", x.forbids(false, 0), 0);
    }

    /** "a LAW that forbids all CASES told by peace forbid, and none told by peace free": all but one, none but one. */
    private void peaceOfAllCases() {
        speak(tongueOf(4, 4, 4) + "peace forbid any any any;");
        due("size(false, 4) at first", x.size(false, 4), 0);
        due("all but case 0", law("not a or not e or not i."), -2);
        due("all but case 63", law("not d or not h or not l."), -2);
        due("none", law(""), -2);
        due("all", law("a or not a."), 4);
        due("size(false, 4)", x.size(false, 4), 1);
        speak(tongueOf(4, 4, 4) + "peace free any any any;");
        due("size(false, 4) at first", x.size(false, 4), 1);
        due("case 0", law("a and e and i."), -2);
        due("case 63", law("d and h and l."), -2);
        due("none", law("a and not a."), 4);
        due("none without a sentence", law(""), 0);
    }

    private void peaceOfOneCase() {
        speak(tongueOf(4, 4, 4) + "peace forbid d h l;peace free a e i;");
        due("one is forbidden, one is free", law("d and h and l."), 5);
        due("all but one", law("not a or not e or not i."), 8);
        due("too many", law("not e. e."), -2);
        due("too few", law("d and h and not l."), -2);
        due("the other way about", law("a and e and i."), -2);
        due("none", law(""), -2);
    }

    /** The first and the last of 8, alike of peace forbid and of peace free. */
    private void eachPeaceCounts() {
        StringBuilder forbid = new StringBuilder(tongueOf(4, 4, 4));
        for (int k = 0; k < 8; k++) {
            forbid.append("peace forbid ").append("abcd".charAt(k % 4)).append(k < 4 ? " e i;" : " f i;");
        }
        speak(forbid.toString());
        due("all eight", law("e and i. f and i."), 6);
        due("all but the first", law("e and i and not a. f and i."), -2);
        due("all but the last", law("e and i. f and i and not d."), -2);
        speak(forbid.toString().replace("forbid", "free"));
        due("none of the eight", law("g."), 1);
        due("the first", law("a and e and i."), -2);
        due("the last", law("d and f and i."), -2);
    }

    private void peaceWithoutCases() {
        speak("who a;peace forbid a any any;peace free any any any;");
        due("size(false, 4) without cases", x.size(false, 4), 1);
        due("the empty law without cases", law(""), 0);
        due("a law without cases", law("not a."), 2);
    }

    private void peaceThatNoLawKeeps() {
        speak(ONE + "peace forbid any any any;peace free any any any;");
        due("a", law("a."), -2);
        due("not a", law("not a."), -2);
        due("nothing", law(""), -2);
        due("restore()", restored(2, 0, STOP, 0, sealOf(2, 0, STOP, 0)), true);
        for (int what = 0; what < 3; what++) {
            due("changes(" + what + ")", x.changes(what), 0);
        }
        due("put(0, not)", x.put(0, NOT), NONE);
        due("size(false, 4)", x.size(false, 4), 0);
    }

    /** "A CHANGE: a SIGN put at a place (0 .. how many)": not goes ahead of a TERM, nothing behind the last one. */
    private void placesOfPuts() {
        for (int place = -1; place < 8; place++) {
            for (int sign = -1; sign <= SIGNS; sign++) {
                if (sign % 6 == 5) {
                    speak(FOUR);
                    law("not a and e.");
                }
                boolean fits = sign == NOT && (place == 0 || place == 1 || place == 3);
                due("put(" + place + ", " + sign + ")", x.put(place, sign), fits ? 5 : NONE);
                if (fits) {
                    x.undo();
                }
            }
        }
        for (int far : FAR) {
            speak(FOUR);
            law("not a and e.");
            due("put at " + far, x.put(far, NOT), NONE);
            due("put of " + far, x.put(0, far), NONE);
            due("status(2)", x.status(2), 2);
        }
        speak(FOUR);
        for (int sign = -1; sign <= SIGNS; sign++) {
            due("put into the empty law", x.put(0, sign), NONE);
        }
    }

    private void placesOfStrikes() {
        int[] fitting = {3, NONE, NONE, 3, NONE, NONE};
        for (int place = -1; place < 8; place++) {
            speak(FOUR);
            law("not a.not e.");
            due("strike(" + place + ")", x.strike(place), place >= 0 && place < 6 ? fitting[place] : NONE);
        }
        for (int far : FAR) {
            speak(FOUR);
            law("not a.");
            due("strike(" + far + ")", x.strike(far), NONE);
            due("status(2)", x.status(2), 1);
        }
        speak(FOUR);
        due("strike(0) of the empty law", x.strike(0), NONE);
    }

    /** Of "a and e.": other words for a and e; or, unless, a stop for and; nothing for the stop, nothing behind it. */
    private void placesOfSwaps() {
        for (int place = -1; place < 7; place++) {
            for (int sign = -1; sign <= SIGNS; sign++) {
                speak(FOUR);
                law("a and e.");
                boolean word = sign == 0 || sign == 1 || sign == 4 || sign == 5 || sign == 8;
                boolean fits = place == 0 && word && sign != 0 || place == 2 && word && sign != 4
                    || place == 1 && (sign == OR || sign == UNLESS || sign == STOP);
                int words = sign == STOP ? 2 : 3;
                due("swap(" + place + ", " + sign + ")", x.swap(place, sign), fits ? words : NONE);
                due("status(2)", x.status(2), fits ? 0 : 1);
            }
        }
        for (int far : FAR) {
            speak(FOUR);
            law("a and e.");
            due("swap at " + far, x.swap(far, 0), NONE);
            due("swap for " + far, x.swap(0, far), NONE);
            due("status(2)", x.status(2), 2);
        }
    }

    /** "LAWFUL is a row of SIGNS that is a LAW within the limit". */
    private void changesWithinTheLimit() {
        for (int limit : new int[] {2, 3, 9, 40}) {
            speak(FOUR + "limit " + limit + ";");
            law("not ".repeat(limit - 2) + "a.");
            due("put up to the limit", x.put(0, NOT), limit);
            due("put above the limit", x.put(0, NOT), NONE);
            due("changes(0) at the limit", x.changes(0), 0);
            due("changes(1) at the limit", x.changes(1), limit - 1);
            due("swap at the limit", x.swap(limit - 1, 1), limit);
            due("strike at the limit", x.strike(0), limit - 1);
        }
        speak(FOUR + "limit 3;");
        law("a.b.e.");
        due("a joint for a stop, above the limit", x.swap(1, AND), NONE);
        law("a.b.");
        due("a joint for a stop, up to the limit", x.swap(1, AND), 3);
        due("a stop for a joint", x.swap(1, STOP), 2);
    }

    /** "60 SIGNS at most" of a CHANGE, too. */
    private void changesWithinSixtySigns() {
        speak(FOUR);
        law("a.".repeat(28) + "not a.");
        due("changes(0) of 59 signs", x.changes(0), 28 + 2);
        due("the 60th sign", x.put(0, NOT), 31);
        due("the 61st sign", x.put(0, NOT), NONE);
        due("changes(0) of 60 signs", x.changes(0), 0);
        due("another sign among 60", x.swap(58, 1), 31);
        due("sign(false, 58)", x.sign(false, 58), 1);
        due("strike among 60", x.strike(57), 30);
        due("the 60th again", x.put(0, NOT), 31);
        law("a.".repeat(30));
        due("put into 60", x.put(0, NOT), NONE);
        due("swap in 60", x.swap(58, 5), 30);
    }

    private void changesKeepThePeace() {
        speak(FOUR + "peace forbid a e i;peace free b f i;");
        law("a.");
        due("it forbids too little", x.swap(0, 1), NONE);
        due("it forbids too much", x.swap(0, 8), NONE);
        due("it forbids the same number of others", x.put(0, NOT), NONE);
        due("e for a", x.swap(0, 4), 1);
        due("status(2)", x.status(2), 3);
        law("not not a.");
        due("strike", x.strike(0), NONE);
        due("changes(1)", x.changes(1), 0);
    }

    /** Whether THE PEACE is kept where SENTENCES are parted or put together, others ahead of them and behind them. */
    private void changesOfJoints() {
        String[] joints = {".", " and ", " or ", " unless "};
        int[] signs = {STOP, AND, OR, UNLESS};
        // a.b. and a or b. forbid all, a and b. nothing, a unless b. forbids a.
        boolean[][] forbids = {{true, true}, {false, false}, {true, true}, {true, false}};
        String[] around = {"", "e and f.", "e and f.".repeat(9)};
        for (int k = 0; k < 256; k++) {
            int before = k % 4;
            int after = k / 4 % 4;
            int word = k / 16 % 2;
            boolean free = k / 32 % 2 == 1;
            if (k / 64 >= 3 || before == after || forbids[before][word] == free) {
                continue;
            }
            for (String behind : new String[] {"", "e and f.", "e and f.i and not i."}) {
                String ahead = around[k / 64];
                speak(FOUR + "peace " + (free ? "free " : "forbid ") + "ab".charAt(word) + " any any;");
                due("law", law(ahead + "a" + joints[before] + "b." + behind) > 0, true);
                int place = new int[] {1, 5, 37}[k / 64];
                due("the joint", x.sign(false, place), signs[before]);
                due(ahead + "a" + joints[after] + "b." + behind, x.swap(place, signs[after]) != NONE,
                    forbids[after][word] != free);
            }
        }
    }

    /**
     * "SIGNS: WORDS by sorts, as they were told (0 .. 3 who, 4 .. 7 what, 8 .. 11 when, 12 .. 17 LIKE ones), 18 and,
     * ..".
     */
    private void numbersOfSigns() {
        StringBuilder tongue = new StringBuilder();
        for (int k = 0; k < 4; k++) {
            tongue.append("when ").append("ijkl".charAt(k)).append(";what ").append("efgh".charAt(k));
            tongue.append(";who ").append("abcd".charAt(k)).append(';');
        }
        speak(tongue + "like m l;like n e;like o n;like p a;like q d;like r h;");
        StringBuilder law = new StringBuilder("a");
        for (char c = 'b'; c <= 'r'; c++) {
            law.append(" or ").append(c);
        }
        due("all words", law(law + "."), 35);
        for (int k = 0; k < 18; k++) {
            due("sign(false, " + 2 * k + ")", x.sign(false, 2 * k), k);
            due("letter(" + k + ", 0)", x.letter(k, 0), k + 1);
        }
        law("a and d or not e unless r.");
        dueSigns("own signs", false, 0, AND, 3, OR, NOT, 4, UNLESS, 17, STOP);
        for (int sign = 0; sign < 18; sign++) {
            due("swap(0, " + sign + ")", x.swap(0, sign), sign == 0 ? NONE : 8);
        }
        int[] cases = {1, 0, 1, 0};
        law("o and l and not a and not d.");
        for (int number = 48; number < 52; number++) {
            due("like words: case " + number, x.forbids(false, number), number == 49 || number == 50 ? 1 : 0);
        }
    }

    // ---- Term III

    /**
     * "SHORT SENTENCES: each LITERAL alone; then of two LITERALS, the first by order, then the second (two of one
     * WORD, too), with and, or, unless, in this order."
     */
    private void shortSentences() {
        for (int words = 0; words <= 12; words++) {
            int whos = Math.min(words, 4);
            int whats = Math.min(words - whos, 4);
            speak(tongueOf(whos, whats, words - whos - whats) + (words > 0 ? "like y a;like z y;" : ""));
            int literals = 2 * words;
            int count = literals + 3 * literals * literals;
            due("shorts() of " + words + " words", x.shorts(), count);
            due("brief(-1, 0)", x.brief(-1, 0), NONE);
            due("brief beyond", x.brief(count, 0), NONE);
            due("fitting(0)", x.fitting(0), count);
            if (words > 0) {
                due("the first alone", x.brief(0, 0), 1);
                due("the last alone", x.brief(literals - 1, 0), 2);
                for (int joint = 0; joint < 3; joint++) {
                    due("the first of two", x.brief(literals + joint, 0), 3);
                    due("the second of two", x.brief(literals + 3 + joint, 0), 4);
                    due("the last of two", x.brief(count - 3 + joint, 0), 5);
                }
            }
        }
    }

    /** Told out of order; a LIKE one is no LITERAL. Cases: 0 a e i, 1 a f i. */
    private void literalsInTheirOrder() {
        speak("when i;what e;like z e;what f;who a;");
        int[] alone = {2, 0, 1, 1, 1, 1, 2, 0};
        for (int k = 0; k < 8; k++) {
            due("brief(" + k + ", 1)", x.brief(k, 1), alone[k]);
            due("brief(" + k + ", 0)", x.brief(k, 0), 1 + k % 2);
        }
        int[] bothOf = {0, 2, 1};
        int[] denied = {1, 1, 0};
        for (int joint = 0; joint < 3; joint++) {
            due("e with f, " + joint, x.brief(8 + (2 * 8 + 4) * 3 + joint, 1), bothOf[joint]);
            due("e with not f, " + joint, x.brief(8 + (2 * 8 + 5) * 3 + joint, 1), denied[joint]);
        }
        due("not i unless not i", x.brief(8 + 63 * 3 + 2, 1), 0);
        due("none behind it", x.brief(8 + 63 * 3 + 3, 1), NONE);
    }

    private void dueFewest(String law, int words, int sentences, int first, int second) {
        law(law);
        other(law);
        int[] wanted = {words, sentences, first, second};
        for (int what = 0; what < 4; what++) {
            due("fewest(false, " + what + ") of " + law, x.fewest(false, what), wanted[what]);
            due("fewest(true, " + what + ") of " + law, x.fewest(true, what), wanted[what]);
        }
    }

    /** "THE FEWEST for a set of CASES: WORDS of one or two SHORT SENTENCES .. (0 for nothing)". */
    private void oneOrTwoShortSentences() {
        // Cases: who by what, so that three on the diagonal need three sentences.
        speak(tongueOf(3, 3, 1));
        dueFewest("", 0, 0, NONE, NONE);
        dueFewest("a and not a.", 0, 0, NONE, NONE);
        int literals = 14;
        dueFewest("a and e.", 3, 1, literals + (0 * literals + 6) * 3, NONE);
        int first = literals + (0 * literals + 6) * 3;
        int second = literals + (2 * literals + 8) * 3;
        dueFewest("a and e. b and f.", 6, 2, first, second);
        dueFewest("a and e. b and f. c and g.", NONE, NONE, NONE, NONE);
        dueFewest("i.", 1, 1, 12, NONE);
        // These three cases fall on the slot of SENTENCE 0 where the class remembers sets.
        speak(tongueOf(4, 4, 1));
        dueFewest("b and e. a and g. d and h.", NONE, NONE, NONE, NONE);
        speak("");
        dueFewest("", 0, 0, NONE, NONE);
    }

    /**
     * "of like ones fewer SENTENCES, then the first by the first SENTENCE, then the second (not ahead of the first)".
     */
    private void likeFewest() {
        speak(tongueOf(3, 2, 1));
        // not c is two WORDS as a. b. are, and comes as 5; e or f, not e or e .. are more.
        dueFewest("a. b.", 2, 1, 5, NONE);
        // a, then e: not e, then a would be the same SENTENCES the other way about.
        dueFewest("e. a.", 2, 2, 0, 6);
        speak(FOUR);
        int literals = 10;
        // Case 0 by three WORDS: a and e, a unless f, e and a, e unless b;
        // case 3: b unless e, b and f, f and b, f unless a.
        int aAndE = literals + (0 * literals + 4) * 3;
        int bUnlessE = literals + (2 * literals + 4) * 3 + 2;
        dueFewest("b and f. a and e.", 6, 2, aAndE, bUnlessE);
        // Cases 0 to 2 by three WORDS: a or e; a, then e has two.
        dueFewest("a or e.", 2, 2, 0, 4);
        speak(tongueOf(3, 2, 1));
        // Cases 0, 2, 3 by four WORDS: a (0), then c and e; e unless b, which comes later, would do.
        dueFewest("a.c and e.", 4, 2, 0, 12 + (4 * 12 + 6) * 3);
        dueFewest("e unless b.a.", 4, 2, 0, 12 + (4 * 12 + 6) * 3);
        speak(tongueOf(2, 2, 2));
        // All but case 6 by four WORDS: b (2), then e or i; e (4), then b or i would do, and i, then b or e.
        dueFewest("b.e.i.", 4, 2, 2, 12 + (4 * 12 + 8) * 3 + 1);
        speak(FOUR);
        // All cases: i has one WORD.
        dueFewest("a or not a.", 1, 1, 8, NONE);
    }

    private void dueWay(String from, String to, int steps) {
        due("law of " + from, law(from) >= 0, true);
        due("other law of " + to, other(to) >= 0, true);
        due("way() from " + from + " to " + to, x.way(), steps);
    }

    /** "the fewest CHANGES one behind the other (3 at most; ..)". */
    private void waysOfThree() {
        speak(FOUR);
        for (int nots = 0; nots < 6; nots++) {
            dueWay("a.", "not ".repeat(nots) + "a.", nots < 4 ? nots : NONE);
            dueWay("not ".repeat(nots) + "a.", "a.", nots < 4 ? nots : NONE);
        }
        String[] swapped = {"a and e or a.", "b and e or a.", "b or e or a.", "b or f or a.", "b or f or b.",
            "b or f and b."};
        for (int k = 0; k < swapped.length; k++) {
            dueWay(swapped[0], swapped[k], k < 4 ? k : NONE);
            dueWay(swapped[k], swapped[0], k < 4 ? k : NONE);
        }
        dueWay("", "", 0);
        dueWay("", "a.", NONE);
        dueWay("a.", "", NONE);
    }

    /** Where the two differ by signs that are put or struck, and by others in their place. */
    private void waysOfOneKindMore() {
        speak(FOUR);
        String[] laws = {"a.", "not a.", "b.", "not b.", "not not b.", "not not not b."};
        int[][] wanted = {{0, 1, 1, 2, 3, NONE}, {1, 0, 2, 1, 2, 3}, {1, 2, 0, 1, 2, 3}, {2, 1, 1, 0, 1, 2},
            {3, 2, 2, 1, 0, 1}, {NONE, 3, 3, 2, 1, 0}};
        for (int from = 0; from < laws.length; from++) {
            for (int to = 0; to < laws.length; to++) {
                dueWay(laws[from], laws[to], wanted[from][to]);
            }
        }
        dueWay("not a.not b.", "a.b.", 2);
        dueWay("a.b.", "not b.not a.", NONE);
        dueWay("a and e.", "not a or not e.", 3);
        dueWay("not a and not e.", "a.not e.", 2);
    }

    /** "CHANGES one behind the other": each keeps THE PEACE, so that but one of two orders is a WAY, or none. */
    private void waysInOneOrder() {
        String[] from = {"not a.not b.", "a.b.", "a.b."};
        String[] to = {"a.b.", "not a.not b.", "b.a."};
        // Behind the first change alone, behind the second alone: not a.b. forbids b, a.not b. forbids a.
        for (String peace : new String[] {"forbid a any any;", "forbid b any any;"}) {
            for (int k = 0; k < from.length; k++) {
                speak(FOUR + "peace " + peace);
                dueWay(from[k], to[k], 2);
            }
        }
        speak(FOUR + "peace forbid a any any;peace forbid b any any;");
        for (int k = 0; k < from.length; k++) {
            dueWay(from[k], to[k], k == 2 ? 3 : NONE);
        }
        // Of three changes the one that the others move by two places comes first: each other order breaks the peace.
        speak(FOUR + "peace free b e i;");
        dueWay("not not a and e.", "a and not e.", 3);
        speak(FOUR + "peace free b f i;");
        dueWay("not not a or e.", "a and e.", 3);
        speak(FOUR + "peace forbid a e i;");
        dueWay("a and e.", "not not a or e.", 3);
    }

    /** "none such with more than 20 SIGNS in one of the two". */
    private void waysOfTwentySigns() {
        String seven = "a.".repeat(7);
        speak(FOUR);
        dueWay(seven + "a.a.a.", seven + "a.a.b.", 1);
        dueWay(seven + "a.a.a.", seven + "b.b.b.", 3);
        dueWay(seven + "a.not a.", seven + "a.not not a.", 1);
        dueWay(seven + "a.not not a.", seven + "a.not a.", 1);
        dueWay(seven + "not not not a.a.", seven + "not not a.a.", NONE);
        dueWay(seven + "not not a.a.", seven + "not not not a.a.", NONE);
        dueWay(seven + "a.a.not a.", seven + "a.a.not b.", NONE);
        dueWay(seven + "a.a.a.a.", seven + "a.a.a.b.", NONE);
        dueWay(seven + "a.a.a.a.", seven + "a.a.a.", NONE);
        dueWay(seven + "a.a.a.", seven + "a.a.a.a.", NONE);
    }

    /**
     * The two have 20 SIGNS; what is between them may have 21: here the peace lets not come ahead of its striking
     * alone.
     */
    private void wayThroughALongerLaw() {
        String nothing = "a and b.a and not a.b and not b.";
        speak("who a;who b;what e;when i;peace forbid a any any;");
        dueWay("not a.not b." + nothing, "not not a.b." + nothing, 2);
        due("sign(false, NONE)", x.sign(false, NONE), 20);
        due("sign(true, NONE)", x.sign(true, NONE), 20);
        due("striking first", x.strike(3), NONE);
        due("putting first", x.put(0, NOT), 16);
        due("then striking", x.strike(4), 15);
        due("there", x.way(), 0);
    }

    /** "if PARTIES for which it is worth more have more votes than those for which it is worth less". */
    private void moreVotes() {
        int[][] votes = {{1, 1}, {2, 1}, {1, 2}, {9, 9}, {9, 8}, {8, 9}, {5, 4}, {4, 5}};
        for (int[] pair : votes) {
            speak("who a;who b;what e;when i;party p votes " + pair[0] + ";party q votes " + pair[1]
                + ";wish p forbid a any any worth 1;wish q free a any any worth 99;");
            law("b.");
            boolean voted = pair[0] > pair[1];
            due("rest()", x.rest(), voted ? 0 : 1);
            due("spring(1)", x.spring(1), voted ? 1 : 0);
            law("b.");
            other("a.");
            due("votes(true)", x.votes(true), pair[0]);
            due("votes(false)", x.votes(false), pair[1]);
        }
        String two = "who a;who b;what e;when i;party p votes 2;party q votes %;party r votes 2;"
            + "wish p forbid a any any worth 1;wish q free a any any worth 99;wish r forbid a any any worth 2;";
        speak(two.replace('%', '3'));
        law("b.");
        due("2 and 2 against 3", x.rest(), 0);
        speak(two.replace('%', '4'));
        law("b.");
        due("2 and 2 against 4", x.rest(), 1);
        speak(FOUR + "party p votes 9;wish p forbid a any any worth 5;wish p forbid b any any worth 5;");
        law("a.");
        other("b.");
        due("like worth is neither more: votes(true)", x.votes(true), 0);
        due("like worth is neither less: votes(false)", x.votes(false), 0);
    }

    /** "by places, striking ahead of another SIGN there (by SIGNS), that ahead of a SIGN put there (by SIGNS)". */
    private void springsInOrder() {
        // All that forbids b is voted.
        String wish = "party p votes 1;wish p forbid b any any worth 1;";
        speak(FOUR + wish);
        law("not b.");
        due("striking", x.spring(1), 1);
        dueSigns("striking ahead of another sign", false, 1, STOP);
        law("a.");
        due("another sign", x.spring(1), 1);
        dueSigns("the first of other signs, ahead of a put one", false, 1, STOP);
        law("not a and a.");
        due("a later place", x.spring(1), 1);
        dueSigns("nothing at place 0 is voted, or for and is", false, NOT, 0, OR, 0, STOP);
    }

    /** "x (the seed) becomes (1103515245 x + 12345) mod 2 to the 31; floor(x / 64) mod m": places 0 .. m - 1. */
    private void draws() {
        int[] seeds = {0, 1, 2, 63, 64, 65, 12345, 1 << 30, Integer.MAX_VALUE - 1, Integer.MAX_VALUE};
        for (int seed : seeds) {
            for (int nots = 1; nots < 39; nots += 6) {
                speak(FOUR);
                due("seed(" + seed + ")", x.seed(seed), true);
                long lot = seed;
                int left = nots;
                law("not ".repeat(nots) + "a.");
                for (int turn = 0; turn < 60; turn++) {
                    lot = Math.floorMod(1103515245L * lot + 12345L, 1L << 31);
                    int place = (int) (Math.floorDiv(lot, 64L) % (left + 2));
                    due("stroke() " + turn + " of seed " + seed, x.stroke(), place < left ? place : NONE);
                    left -= place < left ? 1 : 0;
                }
            }
        }
    }

    // ---- Term IV

    /** "1 as in I (an unknown word at its first byte; what stands behind it, too)": behind the whole QUESTION. */
    private void unknownWords() {
        fineTongue(ONE, 3);
        fine('a', "first all", 0);
        wrongEach('a', 1, "^x", "^firs all", "^firsts all", "^abcdefgh", "^a 1", "^law", "first ^x=1", "first ^a=1");
        wrongEach('a', 1, "total ^x", "total 1+^abcdefgh", "total borne ^cas", "total ^cases", "total min(1,^maxi");
        wrongEach('a', 1, "first all ^x", "first all ^]", "first all^;", "first all ^1", "first all ^=1");
        wrongEach('a', 1, "total 1 ^x", "total 1^)", "total (1) ^(1)", "total 1 ^1", "total 1 ^case", "total 1 ^< 2");
        wrongEach('a', 1, "often 1=1 ^=1", "often all ^not all", "often [all] ^[all]", "total 1^.", "total 1 ^\u00ff");
    }

    /** "4 the 7th of ( [ not borne that is open at once .., at it". */
    private void openAtOnce() {
        fineTongue(ONE, 3);
        openEach("total ", "", "(", "1", ")", 1);
        openEach("often ", "", "[", "all", "]", 1);
        openEach("total ", "", "borne ", "0", "", 0);
        openEach("total ", "min", "(", "1", ",2)", 1);
        openEach("total ", "max ", "(", "1", ",2)", 2);
        fine('a', "total borne(borne(borne(0)))", 0);
        wrongEach('a', 4, "total borne(borne(borne(^borne(0))))", "total borne(borne(borne(^(0))))");
        for (int depth = 1; depth <= 6; depth++) {
            fine('a', "often " + "not ".repeat(depth) + "all", 1 - depth % 2);
            fine('a', "often " + "not[".repeat(depth / 2) + "all" + "]".repeat(depth / 2), 1 - depth / 2 % 2);
        }
        wrongEach('a', 4, "often not not not not not not ^not all", "often not[not[not[^not all]]]",
            "often not[not[not[^[");
        wrongEach('a', 4, "first not[not[1=(borne ^borne 0", "first not[not[1=(borne ^(", "first not 1=(((((^(");
        wrongEach('a', 4, "total ((((((min\n^(1,2", "total ((((((max^(", "total (((((min(^(");
        fine('a', "first not[not[1=(borne 0)]]", NONE);
        wrongEach('a', 1, "total ((((((^", "total ((((((1^", "often [[[[[[^", "often [[[[[[all^", "total ((((((min^");
        wrongEach('a', 1, "total ((((((^[", "total ((((((^not", "often [[[[[[^]",
            "total borne borne borne borne borne borne^");
        wrongEach('a', 1, "^all 1", "^case", "^not all", "^borne 0", "total ^all", "total ^total 1",
            "first ^often all");
        wrongEach('a', 1, "total ((((((^nots", "often [[[[[[^born", "total ((((((min ^1");
    }

    /** So often open around what is in the midst; a word ahead of what is open is not open itself. */
    private void openEach(String kind, String ahead, String sign, String midst, String end, long answer) {
        for (int depth = 1; depth <= 6; depth++) {
            fine('a', kind + (ahead + sign).repeat(depth) + midst + end.repeat(depth), answer);
        }
        String six = kind + (ahead + sign).repeat(6);
        wrong('a', 4, six + ahead + "^" + sign + midst + end.repeat(7));
        wrong('a', 4, six + ahead + "^" + sign + ahead + sign);
    }

    /** "(not until its FACT, borne until their PART ends)". */
    private void closedAgain() {
        fineTongue(ONE, 3);
        String brackets = "[[[[[[all]]]]]]";
        String parts = "((((((1))))))";
        fine('a', "often " + brackets + " and " + brackets + " or " + brackets, 1);
        fine('a', "total " + parts + "+" + parts + "*" + parts, 2);
        fine('a', "often not not not not not not all and not not not not not not all or " + brackets, 1);
        fine('a', "often not not not not not not 1=2 and " + brackets, 0);
        fine('a', "total borne borne borne borne borne borne 0+borne borne 0+" + parts, 1);
        fine('a', "total min(min(min(min(min(min(1,2),3),4),5),6),max(max(1,2),max(7,max(3,4))))", 1);
        fine('a', "often (((((1))))) = " + parts + " and not (1) = 2", 1);
        wrong('a', 4, "often " + brackets + " and [[[[[[^[all]]]]]]]");
        wrong('a', 4, "total " + parts + "+((((((^(1)))))))");
        wrong('a', 4, "often not 1=(((((1)))))+(((((^(1))))))");
        fine('a', "often not 1=(((((1)))))+(((((1)))))", 1);
        wrong('a', 4, "total borne borne borne borne borne borne 0+((((((^(");
        wrong('a', 4, "total max(1,max(1,max(1,max(1,max(1,max(1,max^(1,2)))))))");
    }

    /** "each PART but N, each sum, difference, product above 10 to the 6 is that, below -10 to the 6 likewise". */
    private void heldAtAMillion() {
        speak(ONE);
        String[] texts = {"999*1001", "1000*1000", "1000*1000+1", "1000*1000-1", "1001*1000", "9999*9999",
            "1000*1000+1-1",
            "1000*1000+1000*1000", "9999*9999*9999", "9999*9999/9999", "2*(9999*101)/2", "(1000*1000+1)/2"};
        long[] wanted = {999999, HELD, HELD, 999999, HELD, HELD, 999999, HELD, HELD, 100, 500000, 500000};
        for (int k = 0; k < texts.length; k++) {
            due("total " + texts[k], ask("total " + texts[k]), wanted[k]);
            due("most " + texts[k], ask("most " + texts[k]), wanted[k]);
        }
        String[] below = {"0-999*1001", "0-1000*1000", "0-1000*1000-1", "0-1000*1000-1+1", "(0-1001)*1000",
            "(0-9999)*9999*9999", "0-1000*1000-1000*1000", "(0-1000)*1000+1", "(0-9999)*9999*(0-1)"};
        long[] wantedBelow = {-999999, -HELD, -HELD, -HELD + 1, -HELD, -HELD, -HELD, -999999, HELD};
        for (int k = 0; k < below.length; k++) {
            due("total " + below[k], ask("total " + below[k]), wantedBelow[k]);
            due("least " + below[k], ask("least " + below[k]), wantedBelow[k]);
        }
        speak(tongueOf(4, 4, 4));
        due("of all together, not held", ask("total 9999*9999"), 64L * HELD);
        due("of all together, not held below", ask("total 0-9999*9999"), -64L * HELD);
        due("most is held", ask("most case*9999*9999"), HELD);
    }

    /** "/ gives the greatest whole number not above, by 0 it gives 0". */
    private void quotients() {
        speak(ONE);
        String[] texts = {"6/2", "7/2", "8/2", "(0-6)/2", "(0-7)/2", "(0-8)/2", "7/(0-2)", "6/(0-2)", "(0-7)/(0-2)",
            "0/7",
            "1/2", "(0-1)/2", "(0-1)/9999", "1/(0-9999)", "7/0", "0/0", "(0-7)/0", "7/(1-1)", "1/1", "9999/1", "7/0+3",
            "1000*1000/(0-1)", "(0-1000*1000)/3"};
        long[] wanted = {3, 3, 4, -3, -4, -4, -4, -3, 3, 0, 0, -1, -1, -1, 0, 0, 0, 0, 1, 9999, 3, -HELD, -333334};
        for (int k = 0; k < texts.length; k++) {
            due("total " + texts[k], ask("total " + texts[k]), wanted[k]);
        }
    }

    /**
     * "The CASE's number; the number of its who, its what, its when among those of their sort", of the first and the
     * last.
     */
    private void partsOfCases() {
        speak(tongueOf(4, 3, 2));
        law("d and g and j.");
        other("a and e and i.");
        String[] parts = {"case", "who", "what", "when", "law", "other"};
        int[] last = {23, 3, 2, 1, 1, 0};
        for (int k = 0; k < parts.length; k++) {
            due("total of case 23: " + parts[k], ask("total " + parts[k] + "*(case/23)"), last[k]);
            due("most " + parts[k], ask("most " + parts[k]), k == 5 ? 1 : last[k]);
            due("least " + parts[k], ask("least " + parts[k]), 0);
        }
        due("first other=1", ask("first other=1"), 0);
        due("often other=1", ask("often other=1"), 1);
        due("last law=1", ask("last law=1"), 23);
    }

    /** "1 if the SENTENCE of that number of THE LAW forbids it, else 0". */
    private void bornePart() {
        speak(FOUR);
        due("borne 0 of the empty law", ask("total borne 0"), 0);
        law("a.".repeat(29) + "b.");
        other("e.");
        String[] parts = {"0", "28", "29", "30", "31", "(0-1)", "9999", "(1000*1000)", "(0-1000*1000)"};
        int[] wanted = {2, 2, 2, 0, 0, 0, 0, 0, 0};
        for (int k = 0; k < parts.length; k++) {
            due("total borne " + parts[k], ask("total borne " + parts[k]), wanted[k]);
        }
        due("first borne 0=1", ask("first borne 0=1"), 0);
        due("first borne 29=1", ask("first borne 29=1"), 1);
        due("first borne 30=1", ask("first borne 30=1"), NONE);
    }

    /** "first TEST, last TEST (the first, the last CASE in which it holds), often TEST (in how many)". */
    private void firstAndLast() {
        speak(tongueOf(4, 4, 4));
        String[] tests = {"all", "not all", "case=0", "case=63", "case=64", "case<1", "case>62", "case>63", "0-1=case",
            "case<64"};
        int[] first = {0, NONE, 0, 63, NONE, 0, 63, NONE, NONE, 0};
        int[] last = {63, NONE, 0, 63, NONE, 0, 63, NONE, NONE, 63};
        int[] often = {64, 0, 1, 1, 0, 1, 1, 0, 0, 64};
        for (int k = 0; k < tests.length; k++) {
            due("first " + tests[k], ask("first " + tests[k]), first[k]);
            due("last " + tests[k], ask("last " + tests[k]), last[k]);
            due("often " + tests[k], ask("often " + tests[k]), often[k]);
        }
        for (String text : new String[] {"1<2", "1=1", "2>1", "0-1<0"}) {
            due("often " + text, ask("often " + text), 64);
        }
        for (String text : new String[] {"1<1", "1>1", "1=2", "2<1", "1>2", "0-1>0", "0-1=1"}) {
            due("often " + text, ask("often " + text), 0);
        }
    }

    /** "(the greatest, the least of all; 0 without CASES)". */
    private void mostAndLeast() {
        speak("who a;what b;");
        for (String text : new String[] {"total 5", "most 5", "least 5", "most 0-5", "least 0-5", "often all"}) {
            due(text + " without cases", ask(text), 0);
        }
        due("first without cases", ask("first all"), NONE);
        due("last without cases", ask("last all"), NONE);
        speak(ONE);
        due("most 0-5 of one case", ask("most 0-5"), -5);
        due("least 5 of one case", ask("least 5"), 5);
        speak(tongueOf(4, 4, 4));
        due("most of the last", ask("most case"), 63);
        due("most of the first", ask("most 0-case"), 0);
        due("most below 0", ask("most 0-case-1"), -1);
        due("least of the last", ask("least 0-case"), -63);
        due("least of the first", ask("least case+1"), 1);
        due("min, max of like ones", ask("total min(case,case)-max(case,case)"), 0);
    }

    /** A QUESTION of 1600 bytes, which is the tape's room. */
    private void longestQuestion() {
        speak(ONE);
        due("1600 bytes of a sum", ask("total 10" + "+1".repeat(796)), 806);
        due("1600 bytes of a test", ask("often 1=1 " + "or 1=2 ".repeat(227) + " "), 1);
        due("1600 bytes of blanks", ask("total 7" + " ".repeat(1593)), 7);
        due("the last byte is wrong", ask("total 7" + " ".repeat(1592) + "x"), HundredWords.NOTHING);
        due("its place", x.fault(1), 1599);
        due("1600 bytes that end too soon", ask("total 10" + "+1".repeat(795) + "+ "), HundredWords.NOTHING);
        due("its place", x.fault(1), 1600);
    }

    /** "how many SIGNS, and these; last a byte: all ahead from 101 on, c = (5 c + it) mod 239". */
    private void sealOfImages() {
        speak(FOUR);
        for (int size = 0; size <= 30; size++) {
            law("b.".repeat(size));
            other("e.".repeat(30 - size));
            due("image()", x.image(), 63);
            int seal = 101;
            for (int k = 0; k < 62; k++) {
                seal = (5 * seal + x.octet(k)) % 239;
            }
            due("octet(0)", x.octet(0), 2 * size);
            due("octet of how many others", x.octet(2 * size + 1), 60 - 2 * size);
            due("the seal", x.octet(62), seal);
            due("beyond it", x.octet(63), NONE);
            speak(FOUR);
        }
    }
}
