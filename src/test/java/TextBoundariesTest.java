import java.util.List;
import java.util.Set;

/**
 * Term I, sentence by sentence: the last text inside each boundary, the first one beyond; ^ marks the fault's place.
 */
public final class TextBoundariesTest extends Court {
    private static final List<String> OWN_WORDS = List.of("who", "what", "when", "like", "limit", "party", "votes",
        "wish", "peace", "judged", "forbid", "free", "any", "worth", "and", "or", "not", "unless");
    /** In each % is where a WORD is asked that is given; what is ahead of it is fine. */
    private static final List<String> GIVEN =
        List.of("who %;", "what %;", "when %;", "who z;like % z;", "party % votes 1;");
    /** In each % is where a WORD is asked that is there: what is ahead tells abcdef, as it is asked. */
    private static final List<String> ASKED = List.of("who abcdef;like x %;",
        "party abcdef votes 1;wish % free any any any worth 1;", "who abcdef;peace free % any any;",
        "what abcdef;peace forbid any % any;", "when abcdef;judged free any any %;");

    public static void main(String[] args) {
        TextBoundariesTest test = new TextBoundariesTest();
        test.statements();
        test.fullestTongue();
        test.oneTooManyOfAKind();
        test.lowestAndHighestNumbers();
        test.lastLimitCounts();
        test.digitsOfNumbers();
        test.fifthDigit();
        test.lettersOfWords();
        test.seventhLetter();
        test.longWordWhereNoneIsAsked();
        test.unlikeWords();
        test.ownWords();
        test.nearlyOwnWords();
        test.wordsThatAreThere();
        test.forbidOrFree();
        test.onesOfTheirSort();
        test.threeOnes();
        test.blanks();
        test.blanksWhereOneLikes();
        test.sideBySide();
        test.endsTooSoon();
        test.firstAlongTheText();
        test.wordsWithinTheLimit();
        test.whateverWordItIs();
        test.stopsAreNoWords();
        test.sixtySigns();
        test.termsOfSentences();
        test.unlessOnce();
        test.wordsOfLaws();
        test.bench.finish("TextBoundariesTest");
    }

    // ---- statements

    /** "{ STATEMENT ; } (70 at most)"; "a 71st STATEMENT (whatever stands there), at its first byte". */
    private void statements() {
        String most = "limit 7;".repeat(70);
        fine('t', "", 0);
        fine('t', " \n", 0);
        fine('t', "limit 7;", 1);
        fine('t', "limit 7;".repeat(69), 69);
        fine('t', most, 70);
        fine('t', most + " \n ", 70);
        String[] whatever = {"limit 7;", "limit", "limit 41;", "who a;", "x", ";", ".", "7", "12345", "and", "abcdefgh",
            "Limit 7;", "\u00ff", "\0", "\t"};
        for (String text : whatever) {
            wrong('t', 5, most + "^" + text);
            wrong('t', 5, most + "\n ^" + text);
        }
        String fewer = "limit 7;".repeat(69);
        wrongEach('t', 1, fewer + "^;", fewer + "limit 7^", fewer + "^x", fewer + "limit^");
    }

    /** All kinds full at once: 70 STATEMENTS, 64 CASES. */
    private void fullestTongue() {
        String text = row("who a%;", 4) + row("what b%;", 4) + row("when c%;", 4) + row("like d% aa;", 6)
            + row("party % votes 9;", 5) + "wish a free any any any worth 99;".repeat(16)
            + "peace free any any any;".repeat(8) + "judged forbid any any any;".repeat(10) + "limit 40;".repeat(13);
        fineTongue(text, 70);
        int[] wanted = {4, 4, 4, 6, 40, 5, 16, 8, 10, 64, 0};
        for (int what = 0; what < wanted.length; what++) {
            due("fullest has(" + what + ")", x.has(what), wanted[what]);
        }
        due("fullest worth", x.worth(false, 0), 16 * 64 * 99);
        due("fullest votes(true)", x.votes(true), 0);
        due("fullest rest()", x.rest(), 1);
        due("fullest letter(17, 1)", x.letter(17, 1), 6);
        due("fullest letter(24, 0)", x.letter(24, 0), 5);
        wrong('t', 5, text + "^limit 40;");
    }

    /** "(4 of each sort)", "6 LIKE ones", "5 PARTIES", "16 WISHES", "(8)", "10 JUDGMENTS"; "one too many of a kind". */
    private void oneTooManyOfAKind() {
        tooMany(0, 4, "", "who", "who %;");
        tooMany(1, 4, "", "what", "what %;");
        tooMany(2, 4, "", "when", "when %;");
        tooMany(3, 6, "who z;", "like", "like % z;");
        tooMany(5, 5, "", "party", "party % votes 1;");
        tooMany(6, 16, "party z votes 1;", "wish", "wish z free any any any worth 1;");
        tooMany(7, 8, "", "peace", "peace forbid any any any;");
        tooMany(8, 10, "", "judged", "judged free any any any;");
    }

    private void tooMany(int kind, int most, String ahead, String word, String statement) {
        int before = ahead.isEmpty() ? 0 : 1;
        String full = ahead + row(statement, most);
        fine('t', ahead + row(statement, most - 1), before + most - 1);
        due("one fewer of " + word, x.has(kind), most - 1);
        fine('t', full, before + most);
        due("most of " + word, x.has(kind), most);
        fine('t', full + "limit 7;", before + most + 1);
        for (String rest : new String[] {statement.substring(word.length()), "", ";", " ", " any", " 7", ".",
            " abcdefgh"}) {
            wrong('t', 5, full + "^" + word + rest);
            wrong('t', 5, full + " limit 7; \n^" + word + rest);
        }
        wrong('t', 1, full + "^" + word + "x");
    }

    // ---- numbers

    /** "(1 .. 40; ..)", "(1 .. 9; ..)", "1 .. 99"; "a number that can't be, at it". */
    private void lowestAndHighestNumbers() {
        String votes = "who a;what b;when c;party p votes ";
        String worth = "who a;what b;when c;party p votes 1;wish p free a b c worth ";
        for (int n : new int[] {1, 2, 39, 40}) {
            fine('t', "limit " + n + ";", 1);
            due("has(4) of limit " + n, x.has(4), n);
        }
        for (int n : new int[] {1, 8, 9}) {
            fineTongue(votes + n + ";wish p forbid a b c worth 1;", 5);
            other("a.");
            due("votes(true) of votes " + n, x.votes(true), n);
        }
        for (int n : new int[] {1, 98, 99}) {
            fine('t', worth + n + ";", 5);
            due("worth of worth " + n, x.worth(false, 0), n);
        }
        wrongEach('t', 2, "limit ^0;", "limit ^41;", "limit ^42;", "limit ^9999;", "limit ^0000;", "limit ^0041;");
        wrongEach('t', 2, votes + "^0;", votes + "^10;", votes + "^11;", votes + "^9999;", votes + "^0000;");
        wrongEach('t', 2, worth + "^0;", worth + "^100;", worth + "^101;", worth + "^9999;", worth + "^0000;");
        wrongEach('t', 2, "limit ^0", "limit ^41", votes + "^0", votes + "^10", worth + "^0", worth + "^100");
        wrongEach('t', 2, "limit \n ^0;", "limit ^41x", "limit ^0limit 1;", worth + " ^100 any");
    }

    /** "the last one counts; 40 without". */
    private void lastLimitCounts() {
        fine('t', "limit 5;limit 7;", 2);
        due("the last of two", x.has(4), 7);
        fine('t', "limit 7;who a;limit 40;limit 1;", 4);
        due("the last of three", x.has(4), 1);
        due("another tongue", tongue("who a;"), 1);
        due("40 without", x.has(4), 40);
        wrong('t', 2, "limit ^41;limit 7;");
        wrong('t', 2, "limit 7;limit ^41;");
        due("40 in a new object", x.has(4), 40);
    }

    /** "NUMBERS: 1 to 4 digits": each byte that may stand in a number's place and behind its first digit. */
    private void digitsOfNumbers() {
        for (char c = 0; c < 256; c++) {
            boolean digit = c >= '0' && c <= '9';
            boolean blank = c == 10 || c == 32;
            if (c >= '1' && c <= '9') {
                fine('t', "limit " + c + ";", 1);
                due("has(4) of limit " + c, x.has(4), c - '0');
            } else {
                wrongAt('t', c == '0' ? 2 : 1, blank ? 7 : 6, "limit " + c + ";");
            }
            if (digit || blank) {
                fine('t', "limit 1" + c + ";", 1);
                due("has(4) of limit 1" + c, x.has(4), digit ? 10 + c - '0' : 1);
            } else {
                wrongAt('t', 1, c == ';' ? 8 : 7, "limit 1" + c + ";");
            }
        }
    }

    /** "where a number is asked, a 5th digit at itself"; elsewhere it is wrong whole, at its first byte. */
    private void fifthDigit() {
        String votes = "party p votes ";
        String worth = "party p votes 1;wish p free any any any worth ";
        fine('t', "limit 0040;", 1);
        fine('t', "limit 0001;", 1);
        fine('t', votes + "0009;", 1);
        fine('t', worth + "0099;", 2);
        fineTongue("who a;", 1);
        fine('a', "total 9999", 0);
        wrongEach('t', 1, "limit 0004^0;", "limit 1234^5;", "limit 0000^0", "limit 0000^123456;", "limit 0001^1x");
        wrongEach('t', 1, votes + "0000^9;", votes + "9999^9", worth + "0000^1;", worth + "9999^99;");
        wrongEach('a', 1, "total 0000^1", "total 9999^9", "first 1<0000^22", "total (1234^5678");
        wrongEach('t', 1, "^12345;", "who ^12345;", "limit 7 ^12345;", "who a ^12345;", "peace ^12345");
        wrongLaw(1, "^12345.");
        wrongLaw(1, "a ^12345.");
        wrongEach('a', 1, "^12345", "total 1 ^12345", "total (1 ^12345");
    }

    // ---- words

    /** "WORDS are 1 to 6 letters": each byte that may stand in a WORD's place and behind its first letter. */
    private void lettersOfWords() {
        for (char c = 0; c < 256; c++) {
            boolean letter = c >= 'a' && c <= 'z';
            boolean blank = c == 10 || c == 32;
            if (letter) {
                fine('t', "who " + c + ";", 1);
                due("letter(0, 0) of " + c, x.letter(0, 0), c - 'a' + 1);
                due("letter(0, 1) of " + c, x.letter(0, 1), 0);
            } else {
                wrongAt('t', 1, blank ? 5 : 4, "who " + c + ";");
            }
            if (letter || blank) {
                fine('t', "who x" + c + ";", 1);
                due("letter(0, 1) of x" + c, x.letter(0, 1), letter ? c - 'a' + 1 : 0);
            } else {
                wrongAt('t', 1, c == ';' ? 6 : 5, "who x" + c + ";");
            }
        }
    }

    /** "where a WORD is asked, .. a 7th letter at itself". */
    private void seventhLetter() {
        for (String text : GIVEN) {
            for (String word : new String[] {"y", "abcde", "abcdef", "zzzzzz"}) {
                String told = text.replace("%", word);
                fine('t', told, told.chars().filter(c -> c == ';').count());
            }
            wrong('t', 1, text.substring(0, text.indexOf('%')) + "^;");
            wrongEach('t', 1, text.replace("%", "abcdef^g"), text.replace("%", "zzzzzz^zzzzzz"));
            wrong('t', 1, text.substring(0, text.indexOf('%')) + "judged^s");
        }
        for (String text : ASKED) {
            fine('t', text.replace("%", "abcdef"), 2);
            wrong('t', 3, text.replace("%", "^abcde"));
            wrongEach('t', 1, text.replace("%", "abcdef^g"), text.replace("%", "zzzzzz^zz"));
            wrong('t', 1, text.substring(0, text.indexOf('%')) + "^;");
        }
        fineTongue("who abcdef;what b;when c;like ghijkl b;", 4);
        for (String text : new String[] {"%.", "not %.", "b and %.", "b or not %.", "b unless %.", "b.%."}) {
            int words = text.split("[ .]+").length;
            fineLaw(text.replace("%", "abcdef"), words);
            fineLaw(text.replace("%", "ghijkl"), words);
            wrongLaw(1, text.replace("%", "abcdef^g"));
            wrongLaw(1, text.replace("%", "ghijkl^mnop"));
            wrongLaw(1, text.replace("%", "zzzzzz^z"));
            wrongLaw(3, text.replace("%", "^zzzzzz"));
        }
    }

    /** "(words and numbers whole, at their first byte; ..)". */
    private void longWordWhereNoneIsAsked() {
        wrongEach('t', 1, "^abcdefg;", "^judgeds", "who a ^abcdefg;", "limit ^abcdefg;", "party p ^abcdefg 1;",
            "party p votes ^abcdefg;", "peace ^abcdefg", "peace ^forbids", "judged free any any any ^abcdefg;");
        fineTongue("who a;", 1);
        wrongLaw(1, "a ^abcdefg.");
        wrongLaw(1, "a ^unlesss a.");
        wrongEach('a', 1, "^abcdefg", "^leastly 1", "total ^abcdefg", "total 1 ^abcdefg", "first all ^abcdefg");
    }

    /** "unlike ones (PARTIES', too)"; "a WORD to be given that is there already .., at it". */
    private void unlikeWords() {
        for (String first : GIVEN) {
            String told = first.replace("%", "abcdef");
            for (String second : GIVEN) {
                String ahead = told + second.substring(0, second.indexOf('%')).replace("who z;", "what y;");
                String behind = second.substring(second.indexOf('%') + 1).replace('z', 'y');
                int statements = (int) (ahead + behind).chars().filter(c -> c == ';').count();
                wrong('t', 3, ahead + "^abcdef" + behind);
                wrong('t', 3, ahead + "^abcdef");
                for (String word : new String[] {"abcdee", "abcdeg", "abcde", "bbcdef", "a", "f"}) {
                    fine('t', ahead + word + behind, statements);
                }
            }
        }
        fine('t', "who a;who aa;who aaa;who aaaa;what aaaaa;what aaaaaa;", 6);
    }

    /** "no OWN WORD: .."; "where a WORD is asked, an OWN WORD so [at its first byte]". */
    private void ownWords() {
        fineTongue("who a;", 1);
        for (String own : OWN_WORDS) {
            for (String text : GIVEN) {
                wrong('t', 1, text.replace("%", "^" + own));
                wrong('t', 1, text.substring(0, text.indexOf('%')) + "^" + own);
            }
            for (String text : ASKED) {
                if (!own.equals("any") || !text.contains("any")) {
                    wrong('t', 1, text.replace("%", "^" + own));
                }
            }
            if (OWN_WORDS.indexOf(own) == 6 || OWN_WORDS.indexOf(own) > 9) {
                wrongEach('t', 1, "^" + own + " x;", "^" + own + ";", "limit 7;^" + own + " x 1;");
            }
            wrong('t', 1, "party p votes 1;wish ^" + own + " free any any any worth 1;");
            if (!own.equals("not")) {
                wrongLaw(1, "^" + own + ".");
                wrongLaw(1, "not ^" + own + ".");
                wrongLaw(1, "a and ^" + own + " a.");
                wrongLaw(1, "a unless ^" + own);
            }
        }
    }

    /** A letter more or less, and the words of QUESTIONS: all may be WORDS. */
    private void nearlyOwnWords() {
        for (String own : OWN_WORDS) {
            String shorter = own.substring(0, own.length() - 1);
            fineTongue("who " + shorter + ";", 1);
            fineLaw(shorter + ".", 1);
            if (own.length() < 6) {
                fineTongue("when " + own + "s;", 1);
                fineLaw("not " + own + "s.", 2);
            } else {
                wrong('t', 1, "when " + own + "^s;");
            }
        }
        for (String word : "first last often total most least all case law other borne min max".split(" ")) {
            fineTongue("what " + word + ";party p votes 1;", 2);
            fineLaw(word + " and " + word + ".", 3);
        }
    }

    /** "like WORD WORD (.. the second one .. that is there)", "wish .. (a PARTY ..)": told ahead of it. */
    private void wordsThatAreThere() {
        fine('t', "who a;like b a;", 2);
        fine('t', "what a;like b a;like c b;like d c;", 4);
        fine('t', "when a;like b a;", 2);
        wrongEach('t', 3, "like b ^a;who a;", "like b ^b;", "like b ^a", "who a;like b ^c;like c a;", "like b ^p");
        wrongEach('t', 3, "party p votes 1;like b ^p;", "who a;like ^a a;", "who a;like ^a b;");
        fine('t', "party p votes 1;party q votes 1;wish q free any any any worth 1;", 3);
        wrongEach('t', 3, "wish ^p free any any any worth 1;party p votes 1;", "party p votes 1;wish ^q", "wish ^p");
        wrongEach('t', 3, "who a;wish ^a free any any any worth 1;", "who a;like b a;wish ^b free");
    }

    // ---- cases

    /** "HOW: forbid or free". */
    private void forbidOrFree() {
        String[] starts = {"peace ", "judged ", "party p votes 1;wish p "};
        String[] ends = {";", ";", " worth 1;"};
        for (int k = 0; k < starts.length; k++) {
            int statements = k < 2 ? 1 : 2;
            fine('t', starts[k] + "forbid any any any" + ends[k], statements);
            fine('t', starts[k] + "free any any any" + ends[k], statements);
            for (String how : new String[] {"any", "not", "worth", "p", "frees", "forbi", "fre", ";", "1", "FREE",
                "\u00e9"}) {
                wrong('t', 1, starts[k] + "^" + how + " any any any" + ends[k]);
            }
            wrong('t', 1, starts[k] + "forbid ^forbid any any any");
            wrong('t', 1, starts[k] + "free ^forbid any any any");
        }
    }

    /**
     * "a WORD of who (or any), of what (or any), of when (or any), in this order"; "one that is none of what is
     * asked".
     */
    private void onesOfTheirSort() {
        String ahead = "who a;who d;what b;what e;when c;when f;like g a;like h b;like i c;party p votes 1;";
        String[] words = {"a", "d", "b", "e", "c", "f", "g", "h", "i", "p", "z"};
        String[] starts = {"peace forbid ", "judged free ", "wish p free "};
        for (String start : starts) {
            String end = start.startsWith("wish") ? " worth 1;" : ";";
            for (int k = 0; k < words.length; k++) {
                String who = words[k] + " any any" + end;
                String what = "any " + words[k] + " any" + end;
                String when = "any any " + words[k] + end;
                dueOne(k / 2 == 0, ahead + start, who, 0);
                dueOne(k / 2 == 1, ahead + start, what, 4);
                dueOne(k / 2 == 2, ahead + start, when, 8);
            }
            fine('t', ahead + start + "any any any" + end, 11);
            fine('t', ahead + start + "d e f" + end, 11);
        }
        wrong('t', 3, "peace forbid ^a any any;who a;");
    }

    private void dueOne(boolean isOfTheSort, String ahead, String cases, int at) {
        if (isOfTheSort) {
            fine('t', ahead + cases, 11);
        } else {
            wrongAt('t', 3, ahead.length() + at, ahead + cases);
        }
    }

    /** "CASES: ONE ONE ONE": two are too few, four too many. */
    private void threeOnes() {
        String ahead = "who a;what b;when c;party p votes 1;";
        wrongEach('t', 1, ahead + "peace forbid ^;", ahead + "peace forbid a ^;", ahead + "peace forbid a b ^;");
        wrongEach('t', 1, ahead + "judged free any any any ^any;", ahead + "judged free a b c ^c;");
        wrongEach('t', 1, ahead + "wish p free a b ^worth 1;", ahead + "wish p free a b c ^c worth 1;");
        wrongEach('t', 1, ahead + "wish p free a b c^;", ahead + "peace free a b c ^worth 1;");
    }

    // ---- blanks, ends, order

    /** "Blanks (10, 32) are where one likes": no other byte is one, ahead of a text or behind it. */
    private void blanks() {
        fineTongue("who a;", 1);
        for (char c = 0; c < 256; c++) {
            if (c == 10 || c == 32) {
                fineTongue(c + "who a;" + c, 1);
                fineLaw(c + "a." + c, 1);
                fine('a', c + "total 1" + c, 0);
                continue;
            }
            boolean letter = c >= 'a' && c <= 'z';
            wrongAt('t', 1, 0, c + "who a;");
            wrongAt('t', 1, 6, "who a;" + c);
            wrongAt('a', 1, 0, c + "total 1");
            wrongAt('l', letter ? 3 : 1, 0, c + "a.");
            wrongAt('l', letter && c != 'a' ? 3 : 1, c == 'a' ? 3 : 2, "a." + c);
            if (c < '0' || c > '9') {
                wrongAt('a', 1, c == '+' || c == '-' || c == '*' || c == '/' ? 8 : 7, "total 1" + c);
            }
        }
    }

    private void blanksWhereOneLikes() {
        String[] tokens = {"who", "a", ";", "what", "b", ";", "when", "c", ";", "like", "d", "a", ";", "limit", "9",
            ";",
            "party", "p", "votes", "3", ";", "wish", "p", "forbid", "a", "b", "c", "worth", "5", ";", "peace", "forbid",
            "any", "any", "any", ";", "judged", "forbid", "any", "b", "any", ";"};
        fine('t', " \n" + String.join("\n  \n", tokens) + "\n\n ", 9);
        due("has(9) with many blanks", x.has(9), 1);
        String tight = String.join(" ", tokens).replace(" ;", ";").replace("; ", ";");
        fineTongue(tight, 9);
        due("has(9) with few blanks", x.has(9), 1);
        fineLaw("a and b.c.", 4);
        fineLaw("\na\n and \n b . \n c . ", 4);
        fine('a', "first[1=1]and not[law<other]", 0);
        fine('a', "\nfirst \n [ 1 = 1 ] and  not  [ law < other ] ", 0);
    }

    /** "(words and numbers side by side need one)". */
    private void sideBySide() {
        wrongEach('t', 1, "^whoa;", "limit^7;", "limit 7^who a;", "party p votes^1;", "party pvotes ^1;",
            "party p votes 1;wish p free any any any worth^1;", "party p votes 1;wish p free any any any^1",
                "who a^1;");
        fineTongue("who a;what b;when c;", 3);
        wrongLaw(1, "a^1.");
        wrongLaw(1, "a and^1");
        wrongLaw(3, "^notb.");
        wrongLaw(3, "a and ^notb.");
        wrongEach('a', 1, "total^1", "first 1=1^and 2=2", "total 1^borne 0", "total borne^0", "total case^1");
        fine('a', "total(1)", 1);
        fine('a', "first[all]", 0);
        fine('a', "first not[all]or 1=1", 0);
        fine('a', "total min(1,2)", 1);
        fine('a', "total 1+case*2", 1);
    }

    /** "at the text's length, if it ends too soon": behind each word, number and sign of a text. */
    private void endsTooSoon() {
        String tongue = "who a ; what b ; when c ; like d a ; limit 40 ; "
            + "party p votes 3 ; wish p forbid a any c worth 5 ; "
            + "peace forbid any b any ; judged forbid any any any ;";
        cutEach('t', tongue, ";");
        fineTongue(tongue, 9);
        cutEach('l', "not not a or b and not c unless d or a . a unless not b . c .", ".");
        cutEach('o', "a . not b and c . a unless b .", ".");
        cutEach('a',
            "first not [ all and case + 1 * ( who - 2 ) = min ( what , borne law ) or other < max ( 3 , 4 ) ]", "");
        for (String end : new String[] {"^", " ^", "\n\n^"}) {
            wrongEach('a', 1, "first all or" + end, "first all and" + end, "first all or not" + end, "last all or 1"
                + end);
            wrongEach('a', 1, "often all and 1 =" + end, "first all or 1 = 1 and" + end, "first 1 < 2 or" + end);
            wrongEach('a', 1, "total 1 +" + end, "total 1 *" + end, "most 1 - 2 /" + end, "least 1 / 2 -" + end);
        }
        cutEach('a', "total min ( case / 2 , max ( 1 , borne ( 0 ) ) )", "");
    }

    /** Where a text that is cut ends with the end it is a whole one. */
    private void cutEach(char call, String text, String end) {
        String[] tokens = text.split(" ");
        StringBuilder ahead = new StringBuilder();
        for (int k = 0; k < tokens.length - 1; k++) {
            ahead.append(tokens[k]);
            if (!tokens[k].equals(end)) {
                wrongAt(call, 1, ahead.length(), ahead.toString());
                wrongAt(call, 1, ahead.length() + 2, ahead + "\n ");
            }
            ahead.append(' ');
        }
    }

    /** "FAULTS of both, the first along the text". */
    private void firstAlongTheText() {
        wrong('t', 2, "limit ^0;who abcdefg;who who;");
        wrong('t', 3, "who a;who ^a;limit 0;;");
        wrong('t', 1, "who abcdef^g;limit 0;who abcdef;");
        wrong('t', 5, row("who %;", 4) + "^who a;limit 0;");
        wrong('t', 2, row("who %;", 4) + "limit ^0;who e;");
        wrong('t', 2, "limit ^41x;");
        wrong('t', 3, "who a;who ^a1;");
        fineTongue("who a;limit 2;", 2);
        wrongLaw(3, "^z and a and a.");
        wrongLaw(5, "not not ^z.");
        wrongLaw(1, "a ^not a a.");
        wrong('a', 1, "total 1234^5+((((((((");
        wrong('a', 4, "total ((((((^(12345");
    }

    // ---- laws

    /**
     * "Its WORDS are all but the . : not above the limit"; "of a LAW one WORD above the limit .., at its first byte".
     */
    private void wordsWithinTheLimit() {
        for (int limit : new int[] {1, 2, 3, 9, 39, 40}) {
            fineTongue("who a;limit " + limit + ";", 2);
            String nots = "not ".repeat(limit - 1);
            fineLaw(nots + "a.", limit);
            wrongLaw(5, nots + "not ^a.");
            wrongLaw(5, nots + "a ^and a.");
            wrongLaw(5, nots + "a. ^a.");
        }
        fineTongue("who a;", 1);
        fineLaw("not ".repeat(39) + "a.", 40);
        wrongLaw(5, "not ".repeat(40) + "^a.");
        wrongLaw(5, "not ".repeat(39) + "a.^a.");
    }

    /** "(whatever WORD it is)". */
    private void whateverWordItIs() {
        fineTongue("who a;what b;when c;like d a;party p votes 1;limit 3;", 6);
        String[] words = {"a", "b", "c", "d", "p", "zz", "abcdefghi", "first", "and", "or", "not", "unless", "who",
            "any",
            "judged", "worth"};
        for (String word : words) {
            wrongLaw(5, "not not a. ^" + word + ".");
            wrongLaw(5, "not not a ^" + word + " a.");
            wrongLaw(5, "not not not ^" + word);
            wrongLaw(5, "a unless b \n^" + word + " ;");
        }
        wrongLaw(1, "not not a ^;");
        wrongLaw(1, "not not a^1");
        wrongLaw(1, "not not a^");
        wrongLaw(1, "not not not^.");
        wrongLaw(1, "not not a.^A");
    }

    private void stopsAreNoWords() {
        for (int limit : new int[] {1, 2, 29, 30}) {
            fineTongue("who a;limit " + limit + ";", 2);
            fineLaw("a.".repeat(limit), limit);
            due("stops of " + limit, x.size(true, 1), limit);
        }
        fineTongue("who a;limit 29;", 2);
        wrongLaw(5, "a.".repeat(29) + "^a.");
    }

    /** "60 SIGNS at most (WORDS and . )"; "a 61st SIGN, at its first byte". */
    private void sixtySigns() {
        fineTongue("who a;party p votes 1;", 2);
        String fewer = "a.".repeat(28);
        fineLaw("a.".repeat(29), 29);
        fineLaw(fewer + "not a.", 30);
        fineLaw(fewer + "not not a.", 31);
        due("sign(true, NONE) of 60", x.sign(true, NONE), 60);
        fineLaw("a.".repeat(30) + " \n", 30);
        wrongLaw(5, fewer + "not not not a^.");
        wrongLaw(5, fewer + "not not not a ^.");
        wrongLaw(5, fewer + "not not not not ^a.");
        wrongLaw(5, fewer + "a. not a^.");
        wrongLaw(5, fewer + "a. a and ^a.");
        for (String word : new String[] {"a.", "a", "not a.", "p", "zz", "abcdefghi"}) {
            wrongLaw(5, "a.".repeat(30) + "^" + word);
            wrongLaw(5, "a.".repeat(30) + "\n ^" + word);
        }
        wrongLaw(1, "a.".repeat(30) + "^1");
        wrongLaw(1, fewer + "not not not a^");
        wrongLaw(1, fewer + "not not not a^;");
    }

    /**
     * "TERMS: TERM { and TERM, or or TERM }": a SENTENCE has one TERM at least, and one behind each and, or, unless.
     */
    private void termsOfSentences() {
        fineTongue("who a;what b;", 2);
        fineLaw("", 0);
        fineLaw("a.", 1);
        fineLaw("not a.", 2);
        fineLaw("a and b or not b unless not not a or b.", 12);
        String[] texts = {"^.", "a.^.", "not^.", "a and^.", "a or^.", "a unless^.", "a unless b and^.", "a ^b.",
            "a ^not b.",
            "^and a.", "^or a.", "^unless a.", "a and ^and b.", "a or ^unless b.", "a unless ^or b.", "not ^and a.",
            "a unless b ^a.", "a unless b ^not a.", "not ^or a.", "not ^unless a.", "a unless not ^or b."};
        for (String text : texts) {
            wrongLaw(1, text);
        }
    }

    /** "SENTENCE: TERMS, or TERMS unless TERMS". */
    private void unlessOnce() {
        fineTongue("who a;what b;", 2);
        fineLaw("a unless b. b unless a.", 6);
        wrongLaw(1, "a unless b ^unless a.");
        wrongLaw(1, "a unless b and a ^unless a.");
        wrongLaw(1, "a unless ^unless b.");
    }

    /** "TERM: a WORD of the TONGUE's sorts, or a LIKE one"; "one that is none of what is asked, at it". */
    private void wordsOfLaws() {
        fineTongue(row("who a%;", 4) + row("what b%;", 4) + row("when c%;", 4) + row("like d% aa;", 6)
            + row("party % votes 1;", 5), 23);
        Set<String> beyond = Set.of("ae", "be", "ce", "dg", "a", "e", "f", "zz", "aaa", "abcdef");
        for (String word : beyond) {
            wrongLaw(3, "^" + word + ".");
            wrongLaw(3, "not ^" + word);
            wrongLaw(3, "aa and ^" + word + " aa.");
        }
        for (String word : "aa ad ba bd ca cd da df".split(" ")) {
            fineLaw(word + ".", 1);
        }
    }
}
