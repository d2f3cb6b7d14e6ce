/** Texts of tongues, laws and questions with their faults: in each text ^ marks the place that is due. */
public final class FaultsTest extends Court {
    private static final String TONGUE =
        "who a; who b; what c; what d; when f; like e a; party p votes 1; limit 9;";

    public static void main(String[] args) {
        FaultsTest test = new FaultsTest();
        test.tongueTexts();
        test.tongueNumbers();
        test.tongueWords();
        test.tongueTooMany();
        test.fineTongues();
        test.lawTexts();
        test.lawWords();
        test.lawTooMany();
        test.fineLaws();
        test.questionTexts();
        test.questionDepth();
        test.fineQuestions();
        test.faultsOfTheLatest();
        test.bench.finish("FaultsTest");
    }

    private void tongueTexts() {
        String[] texts = {
            "^x;", "^;", "^1;", "^.", "^WHO a;", "^whoa;", "^and;", "^votes;", "^any;", "^forbid;", "  ^x", "\n^x",
            "^\twho a;", "who^\ta;", "who^1 a;", "who ^", "who^", "who ^;", "who ^any", "who ^who;", "who ^unless;",
            "who ^judged;", "who ^worth;", "who abcdef^g", "who abcdef^ghijk;", "who a^", "who a ^", "who a\n\n^",
            "who a ^b;", "who a^1;", "who a^.", "who ^1;", "who ^12345;", "who ^A;", "who a^A;", "who a;^;",
            "who a; what ^;", "who a^`;", "who a^{;",
            "like ^limit a;", "like ^", "who a;like b ^;", "who a;like b ^any;", "who a;like b a ^c;",
            "who a;like b abcdef^g;", "who a;like abcdef^gh a;", "who a;like b^", "who a;like b ^1;",
            "limit^5;", "limit^", "limit ^;", "limit ^x;", "limit ^who", "limit 1234^5;", "limit 0000^1;",
            "limit 0000^0;",
            "limit 5^x;", "limit 5 ^5;", "limit 5^who a;", "limit 5^", "limit ^-1;", "limit 1234^56789",
            "party ^votes votes 1;", "party p ^vote 1;", "party p ^votesx 1;", "party p ^1", "party p^1",
            "party p ^;",
            "party p votes^1;", "party p votes ^;", "party p votes ^p;", "party p votes 1 ^1;", "party ^", "party p^",
            "wish ^forbid", "wish ^;", "wish ^1", "wish ^any forbid any any any worth 1;",
            "party p votes 1;wish p ^ban", "party p votes 1;wish p ^any", "party p votes 1;wish p^",
            "party p votes 1;wish p forbid any any ^;", "party p votes 1;wish p free any any any ^;",
            "party p votes 1;wish p free any any any ^1;", "party p votes 1;wish p free any any any worth^1;",
            "party p votes 1;wish p free any any any worth ^;", "party p votes 1;wish p free any any any worth 1^",
            "peace ^any", "peace ^", "peace ^;", "peace ^forbidx", "peace forbid ^free any any;", "peace forbid ^",
            "peace forbid any any ^;", "peace forbid any any ^1;", "peace forbid any any any ^worth 1;",
            "peace forbid abcdef^g", "peace forbid any^2 any any;", "peace free any ^not",
            "judged ^", "judged ^x free", "judged free any any any^", "judged free any any any ^any;",
        };
        for (String text : texts) {
            wrong('t', 1, text);
        }
    }

    private void tongueNumbers() {
        String[] texts = {
            "limit ^0;", "limit ^41;", "limit ^9999", "limit ^0000", "limit ^0041 x", "party p votes ^0;",
            "party p votes ^10;", "party p votes 1;wish p free any any any worth ^0;",
            "party p votes 1;wish p free any any any worth ^100;",
        };
        for (String text : texts) {
            wrong('t', 2, text);
        }
    }

    private void tongueWords() {
        String[] texts = {
            "who a;who ^a;", "who a;what ^a;", "what a;when ^a;", "who a;party ^a", "party a votes 1;who ^a;",
            "party a votes 1;party ^a", "who a;like ^a a;", "who a;like b a;when ^b;", "who a;like b a;like ^b a;",
            "like b ^x;", "like a ^a;", "party p votes 1;like a ^p;", "party p votes 1;like ^p x;", "wish ^x",
            "who a;wish ^a",
            "who a;what b;when c;peace forbid ^b", "who a;what b;when c;peace forbid a ^a",
            "who a;what b;when c;peace forbid a b ^b", "who a;what b;when c;peace forbid any any ^a;",
            "who a;like b a;peace free ^b", "party p votes 1;judged free ^p", "judged free any any ^x",
            "party p votes 1;wish p free ^p", "peace forbid ^a any any; who a;",
        };
        for (String text : texts) {
            wrong('t', 3, text);
        }
    }

    private void tongueTooMany() {
        wrong('t', 5, "who a;who b;who c;who d;^who");
        wrong('t', 5, "what a;what b;what c;what d;^what e;");
        wrong('t', 5, "when a;when b;when c;when d; ^when any");
        wrong('t', 5, "who a;like b a;like c a;like d a;like e a;like f a;like g a;^like h a;");
        wrong('t', 5, "party a votes 1;party b votes 1;party c votes 1;party d votes 1;party e votes 1;^party f");
        wrong('t', 5, "party p votes 1;" + "wish p free any any any worth 1;".repeat(16) + "^wish x");
        wrong('t', 5, "peace forbid any any any;".repeat(8) + "^peace forbid any any any;");
        wrong('t', 5, "judged free any any any;".repeat(10) + "^judged;");
        wrong('t', 1, "who a;who b;who c;who d;^whoe");
        String most = "limit 1;".repeat(70);
        wrong('t', 5, most + "^limit 1;");
        wrong('t', 5, most + " \n^;");
        wrong('t', 5, most + "^X");
        wrong('t', 5, most + "^limit");
        wrong('t', 5, most + "^1");
        wrong('t', 1, "limit 1;".repeat(69) + "limit 1^");
        fine('t', most + "  ", 70);
    }

    private void fineTongues() {
        fine('t', "", 0);
        fine('t', " \n ", 0);
        fine('t', "limit 1;", 1);
        fine('t', "limit 0040;", 1);
        fine('t', "who\na;what b ;when\n\nc  ;like abcdef a;like g abcdef;", 5);
        fine('t', "party p votes 9;wish p free any any any worth 99;", 2);
        fine('t', "who votesx;what whos;when a;peace forbid votesx any a;", 4);
    }

    private void lawTexts() {
        fineTongue(TONGUE, 8);
        String[] texts = {
            "a^", "a ^", "a and^", "a and \n^", "not^", "a unless^", "a unless b^", "a unless not^", "a.b^",
            "a. not ^",
            "^and", "^or a.", "^unless a.", "^.", "a.^.", "a. ^and b.", "a ^b.", "a ^a", "a ^not b.", "a unless^.",
            "a and^.", "a or ^or b.", "a and ^unless b.", "not^.", "not ^and a.", "a unless b ^unless c.",
            "a unless ^and b.", "a unless b ^not c.", "a unless b ^c", "^who.", "a and ^any.", "not ^limit.",
            "a unless ^free",
            "a ^who", "a^;", "^;", "a^1.", "^1.", "a and ^1", "a. ^1", "^A.", "a^A.", "a ^abcdefgh.", "a ^x", "a ^p.",
            "abcdef^g.", "abcdef^ghi", "not abcdef^gh", "a and abcdef^g", "a^,b.", "a. b^",
        };
        for (String text : texts) {
            wrongLaw(1, text);
        }
    }

    private void lawWords() {
        String[] texts = {"^x.", "^p.", "^abcdef.", "a and ^x", "not ^zz.", "not not ^p.", "a unless ^p.", "a. ^y b"};
        for (String text : texts) {
            wrongLaw(3, text);
        }
    }

    private void lawTooMany() {
        String nine = "a and a and a and a and a ";
        String[] more = {"^and", "^x", "^abcdefgh", "^who", "^a.", "^unless b.", "^p", "^anda"};
        for (String text : more) {
            wrongLaw(5, nine + text);
        }
        wrongLaw(5, "not not not not not not not not not ^not");
        wrongLaw(5, "not not not not not not not not not ^a.");
        wrongLaw(1, "not not not not not not not not not^.");
        wrongLaw(1, "a. a. a. a. a. a. a. a. a. ^1");
        wrongLaw(1, "a. a. a. a. a. a. a. a. a.^.");
        wrongLaw(5, "a. a. a. a. a. a. a. a. a. ^b.");
        fine('l', nine + ".", 9);
        fineTongue("who a; what c; when f;", 3);
        String sixty = "a.".repeat(30);
        wrongLaw(5, sixty + "^a");
        wrongLaw(5, sixty + " ^x");
        wrongLaw(5, sixty + "^.");
        wrongLaw(1, sixty + "^1");
        wrongLaw(1, sixty + "^,");
        wrongLaw(5, "a.".repeat(29) + "a and ^c.");
        wrongLaw(5, "a.".repeat(29) + "a and^.");
        wrongLaw(1, "a.".repeat(29) + "a and^");
        wrongLaw(5, "not ".repeat(40) + "^a.");
        fine('l', sixty, 30);
        fine('o', "not ".repeat(39) + "a.", 40);
    }

    private void fineLaws() {
        fineTongue(TONGUE, 8);
        fine('l', "", 0);
        fine('l', " \n", 0);
        fine('o', "e.", 1);
        fine('l', "not\nnot a and b or c unless d.", 9);
        fine('l', "a.b.c .d\n.", 4);
        fine('l', "a unless b and c or d.", 7);
    }

    private void questionTexts() {
        String[] texts = {
            "^", " ^", "^x 1", "^1", "^all", "^firstall", "^case", "first^", "first ^", "first 5^", "first 5 ^",
            "first all ^all", "first all^;", "total ^spot", "total 1234^5", "total 5^;", "total^5", "total borne^0",
            "first 1=1^and 2=2", "first 1=1 and^", "first ^and", "first ^or all", "first all ^not all", "first [1=1^",
            "first [1=1^)", "first [^", "first [^]", "first (1^=1)", "total ^[1]", "total 1+^", "total 1+^+1",
            "total ^-1",
            "total 1*^/2", "total (1^", "total (1^]", "total (^)", "most max(1 ^2)", "least min ^1",
            "least min^", "least min(1,2^", "least min(1^)", "least min(1,2^,3)", "total ^all", "total ^not 1",
            "total ^first", "first not^", "first not ^and", "first case^", "first case ^5", "first case=1^=1",
            "often law ^law", "total borne^", "total borne ^borneo", "total 1 ^1", "total case^5", "total 5^case",
            "first 1<^", "first 1<^>2", "first 1^!2", "total ^Case", "total 1 ^and 1", "total 1^<2", "most ^",
            "total 0000^0",
            "first all and all or^", "often [all ^", "first law=1 ^case=2", "total max ^", "total max (^",
        };
        for (String text : texts) {
            wrong('a', 1, text);
        }
    }

    private void questionDepth() {
        String[] texts = {
            "first ((((((^((1<2", "first not not not not not not ^not all", "often [[[[[[^[all",
            "total borne borne borne borne borne borne ^borne 1", "total ((((((min^(1,2",
            "total min(min(min(min(min(min(max^(1,2", "first not [not [(borne ^(1", "first [[[[[[^not all]]]]]]",
            "first not not not not not not ^(1)=1", "first [[[[[[all]]]]]] and [[[[[[^[all",
            "total min(1,(((((^(1", "total borne min(borne borne borne borne ^(1", "first 1=((((((^(",
        };
        for (String text : texts) {
            wrong('a', 4, text);
        }
        wrong('a', 1, "total ((((((min ^1");
        wrong('a', 1, "first not not not not not not ^nought");
    }

    private void fineQuestions() {
        fineTongue(TONGUE, 8);
        fine('a', "first [[[[[[all]]]]]] and [[[[[[all]]]]]]", 0);
        fine('a', "first not not not not not not all and not not case=0", 0);
        fine('a', "total borne borne borne borne borne borne 1+borne 1+((((((1))))))", 4);
        fine('a', "total min(1,min(2,3))+max(1,max(2,max(3,4)))", 4 * 5);
        fine('a', "often\nall", 4);
        fine('a', "often[all]", 4);
        fine('a', "often not[all]or case=1", 1);
        fine('a', "total(case)", 6);
        fine('a', " total  9999 ", 4 * 9999);
        fine('a', "total 0000", 0);
    }

    private void faultsOfTheLatest() {
        HundredWords fresh = new HundredWords();
        bench.due("fault(0) ahead of any", fresh.fault(0), 0);
        bench.due("fault(1) ahead of any", fresh.fault(1), HundredWords.NONE);
        wrong('t', 1, "who ^");
        due("fault(2)", x.fault(2), NONE);
        due("fault(-1)", x.fault(-1), NONE);
        Bench.tell(x, "x");
        due("restore() of x", x.restore(), false);
        due("fault(0) behind restore()", x.fault(0), 1);
        due("fault(1) behind restore()", x.fault(1), 4);
        speak("who a; what c; when f; peace forbid a c f;");
        due("law of too little", law("not a."), -2);
        due("fault(0) of -2", x.fault(0), 0);
        due("ask()", ask("first"), HundredWords.NOTHING);
        due("other law of too little", other("not a."), 2);
        due("fault(0) behind it", x.fault(0), 0);
    }
}
