import java.util.Arrays;

/** A hundred words of law: laws as short texts in a tongue of who, what and when that is itself told as a text. */
public final class HundredWords {
    /** There is none; it is refused. */
    public static final int NONE = -1;
    /** Told where a number below 0 may be one. */
    public static final long NOTHING = -1000000000000000L;

    private static final int BROKEN_PEACE = -2;

    private static final int SORTS = 3;
    private static final int WORDS_OF_SORT = 4;
    private static final int SORT_WORDS = 12;
    private static final int MOST_CASES = 64;

    private static final int FIRST_LIKE = 12;
    private static final int AND = 18;
    private static final int OR = 19;
    private static final int NOT = 20;
    private static final int UNLESS = 21;
    private static final int STOP = 22;
    private static final int SIGNS = 23;
    private static final int MOST_SIGNS = 60;
    /** Even the shortest SENTENCE has two SIGNS. */
    private static final int MOST_SENTENCES = 30;

    /** At each place: strike, then swap by SIGNS, then put by SIGNS: numbers of changes rise as a SPRING tries them. */
    private static final int CHOICES = 47;
    private static final int FIRST_SWAP = 1;
    private static final int FIRST_PUT = 24;

    private static final int WRONG_TEXT = 1;
    private static final int WRONG_NUMBER = 2;
    private static final int WRONG_WORD = 3;
    private static final int TOO_DEEP = 4;
    private static final int TOO_MANY = 5;

    private final Tape tape;
    private final TongueReader tongueReader;
    private final LawReader lawReader;
    private final Question question;
    private Tongue spoken;
    private Tongue draft;
    private final Row theLaw;
    private final Row otherLaw;
    private final Row trial;
    private final Row twin;
    private final Acts acts;
    private final Shorts shortOnes;
    private final Way paths;
    private final Image picture;
    private final int[] refused;
    private long lot;

    public HundredWords() {
        tape = new Tape();
        tongueReader = new TongueReader(tape);
        lawReader = new LawReader(tape);
        question = new Question(tape);
        spoken = new Tongue();
        draft = new Tongue();
        theLaw = new Row();
        otherLaw = new Row();
        trial = new Row();
        twin = new Row();
        acts = new Acts();
        shortOnes = new Shorts();
        paths = new Way();
        picture = new Image();
        refused = new int[6];
        lot = 1;
    }

    public int feed(int a, int b, int c, int d, int e) {
        if (tape.length + 20 > Tape.ROOM) {
            return refuse(0);
        }
        tape.append(a);
        tape.append(b);
        tape.append(c);
        tape.append(d);
        tape.append(e);
        return tape.length;
    }

    public boolean end(int n) {
        if (n < 0 || n > tape.length) {
            refuse(0);
            return false;
        }
        tape.length = n;
        return true;
    }

    public int tongue() {
        int statements = tongueReader.read(draft);
        tape.length = 0;
        if (statements == NONE) {
            return refuse(1);
        }
        Tongue old = spoken;
        spoken = draft;
        draft = old;
        theLaw.clear();
        otherLaw.clear();
        acts.forget();
        shortOnes.forget();
        return statements;
    }

    public int law(boolean other) {
        boolean lawful = lawReader.read(spoken, trial);
        tape.length = 0;
        if (!lawful) {
            return refuse(1);
        }
        trial.weigh(spoken);
        if (other) {
            otherLaw.copy(trial);
            otherLaw.weigh(spoken);
            return otherLaw.words;
        }
        if (!spoken.keepsPeace(trial.forbidden)) {
            refuse(1);
            return BROKEN_PEACE;
        }
        return enactTrial();
    }

    public int fault(int what) {
        if (what == 0) {
            return tape.fault;
        }
        return what == 1 ? tape.place : NONE;
    }

    public int has(int what) {
        return what == 10 ? acts.count : spoken.number(what);
    }

    public int letter(int sign, int k) {
        return spoken.letterOf(sign, k);
    }

    // ---- the laws

    public int sign(boolean other, int k) {
        Row row = other ? otherLaw : theLaw;
        if (k == NONE) {
            return row.size;
        }
        return k >= 0 && k < row.size ? row.sign[k] : NONE;
    }

    public int size(boolean other, int what) {
        Row row = other ? otherLaw : theLaw;
        switch (what) {
            case 0:
                return row.words;
            case 1:
                return row.sentences;
            case 2:
                return Long.bitCount(row.forbidden);
            case 3:
                return row.idleSentences();
            case 4:
                return other ? NONE : truth(spoken.keepsPeace(row.forbidden));
            default:
                return NONE;
        }
    }

    public int forbids(boolean other, int number) {
        if (!spoken.isCase(number)) {
            return NONE;
        }
        Row row = other ? otherLaw : theLaw;
        return truth(isIn(row.forbidden, number));
    }

    public int borne(int number, int k) {
        return spoken.isCase(number) ? theLaw.bearer(number, k) : NONE;
    }

    public int led(int number, int k) {
        if (!spoken.isCase(number) || !isIn(theLaw.forbidden, number) || k < 0) {
            return NONE;
        }
        int met = 0;
        for (int place = 0; place < theLaw.size; place++) {
            if (trial.follows(spoken, theLaw, place * CHOICES) && !isIn(trial.forbidden, number)) {
                if (met == k) {
                    return place;
                }
                met++;
            }
        }
        return NONE;
    }

    public int price(int place) {
        if (place < 0 || place >= theLaw.size || !trial.follows(spoken, theLaw, place * CHOICES)) {
            return NONE;
        }
        return Long.bitCount(trial.forbidden ^ theLaw.forbidden);
    }

    // ---- changes

    public int put(int place, int sign) {
        return isSpot(place, sign) ? change(place * CHOICES + FIRST_PUT + sign) : refuse(2);
    }

    public int strike(int place) {
        return isSpot(place, 0) ? change(place * CHOICES) : refuse(2);
    }

    public int swap(int place, int sign) {
        return isSpot(place, sign) ? change(place * CHOICES + FIRST_SWAP + sign) : refuse(2);
    }

    public boolean undo() {
        if (acts.count == 0) {
            refuse(3);
            return false;
        }
        acts.takeBack(theLaw);
        theLaw.weigh(spoken);
        return true;
    }

    public int changes(int what) {
        switch (what) {
            case 0:
                return countChanges(FIRST_PUT, CHOICES);
            case 1:
                return countChanges(0, FIRST_SWAP);
            case 2:
                return countChanges(FIRST_SWAP, FIRST_PUT);
            default:
                return NONE;
        }
    }

    // ---- fewest words, ways, holes

    public int fewest(boolean other, int what) {
        Row row = other ? otherLaw : theLaw;
        return shortOnes.fewestFor(spoken, row.forbidden, truth(other), what);
    }

    public int shorts() {
        return shortOnes.total(spoken);
    }

    public int brief(int sentence, int what) {
        return shortOnes.tell(spoken, sentence, what);
    }

    public int way() {
        return paths.measure(spoken, theLaw, otherLaw);
    }

    public int hole(boolean forward, int k) {
        long holes = forward ? otherLaw.forbidden & ~theLaw.forbidden : theLaw.forbidden & ~otherLaw.forbidden;
        return nthCase(holes, k);
    }

    public int parts() {
        return nthCase(theLaw.forbidden ^ otherLaw.forbidden, 0);
    }

    // ---- parties

    public int worth(boolean other, int party) {
        Row row = other ? otherLaw : theLaw;
        return spoken.worthFor(party, row.forbidden);
    }

    public int votes(boolean yes) {
        return spoken.votesOn(theLaw.forbidden, otherLaw.forbidden, yes);
    }

    public int rest() {
        return truth(!findsVoted());
    }

    public int spring(int n) {
        if (n < 1 || n > Acts.MOST) {
            return refuse(2);
        }
        for (int sprung = 0; sprung < n; sprung++) {
            if (!findsVoted()) {
                return sprung;
            }
            enactTrial();
        }
        return n;
    }

    // ---- judgments, lots

    public int fitting(int what) {
        return shortOnes.fittingOnes(spoken, what);
    }

    public int judged() {
        return spoken.judgments.firstBroken(theLaw.forbidden);
    }

    public boolean seed(int seed) {
        if (seed < 0) {
            refuse(4);
            return false;
        }
        lot = seed;
        return true;
    }

    public int stroke() {
        if (theLaw.size == 0) {
            return NONE;
        }
        int place = draw(theLaw.size);
        if (!isChange(place * CHOICES)) {
            return NONE;
        }
        enactTrial();
        return place;
    }

    public long ask() {
        boolean whole = question.read();
        tape.length = 0;
        return whole ? question.answer(spoken, theLaw, otherLaw) : NOTHING;
    }

    // ---- images, refusals

    public int image() {
        picture.write(theLaw, otherLaw);
        return picture.length;
    }

    public int octet(int k) {
        return k >= 0 && k < picture.length ? picture.octets[k] : NONE;
    }

    public boolean restore() {
        boolean taken = isImage();
        tape.length = 0;
        if (!taken) {
            refuse(5);
            return false;
        }
        theLaw.copy(trial);
        theLaw.weigh(spoken);
        otherLaw.copy(twin);
        otherLaw.weigh(spoken);
        acts.forget();
        return true;
    }

    public int status(int what) {
        return what >= 0 && what < refused.length ? refused[what] : NONE;
    }

    private int refuse(int what) {
        if (what >= 0 && what < refused.length) {
            refused[what]++;
        }
        return NONE;
    }

    private int enactTrial() {
        acts.keep(theLaw);
        theLaw.copy(trial);
        theLaw.weigh(spoken);
        return theLaw.words;
    }

    private boolean isSpot(int place, int sign) {
        return place >= 0 && place <= theLaw.size && sign >= 0 && sign < SIGNS;
    }

    private int change(int number) {
        return isChange(number) ? enactTrial() : refuse(2);
    }

    /** The trial row is THE LAW changed so, when the answer is true. */
    private boolean isChange(int number) {
        return trial.follows(spoken, theLaw, number) && spoken.keepsPeace(trial.forbidden);
    }

    private int countChanges(int first, int behind) {
        int count = 0;
        for (int place = 0; place <= theLaw.size; place++) {
            for (int choice = first; choice < behind; choice++) {
                if (isChange(place * CHOICES + choice)) {
                    count++;
                }
            }
        }
        return count;
    }

    /** The trial row is THE LAW behind its first VOTED CHANGE, when the answer is true. */
    private boolean findsVoted() {
        int behind = (theLaw.size + 1) * CHOICES;
        for (int number = 0; number < behind; number++) {
            if (isChange(number) && spoken.isVoted(theLaw.forbidden, trial.forbidden)) {
                return true;
            }
        }
        return false;
    }

    private int draw(int m) {
        lot = (1103515245L * lot + 12345L) & 0x7fffffffL;
        return m > 0 ? (int) ((lot / 64) % m) : 0;
    }

    /** The trial and the twin are the two rows of the tape's image, when the answer is true. */
    private boolean isImage() {
        int second = trial.load(tape, 0);
        int last = second == NONE ? NONE : twin.load(tape, second);
        if (last == NONE || last != tape.length - 1) {
            return false;
        }
        return Image.seal(tape.octets, last) == tape.octetAt(last)
            && trial.isLawful(spoken) && twin.isLawful(spoken);
    }

    private static int truth(boolean held) {
        return held ? 1 : 0;
    }

    private static boolean isIn(long cases, int number) {
        return (cases >>> number & 1L) != 0;
    }

    private static int nthCase(long cases, int k) {
        int met = 0;
        for (int number = 0; number < MOST_CASES; number++) {
            if (isIn(cases, number)) {
                if (met == k) {
                    return number;
                }
                met++;
            }
        }
        return NONE;
    }

    /** The bytes that came in, and the eye that goes along them as they are read. */
    private static final class Tape {
        static final int ROOM = 1600;
        static final int LONGEST = 6;
        static final int MOST_DIGITS = 4;
        private static final int LINE_END = 10;
        private static final int BLANK = 32;

        final int[] octets;
        int length;
        int at;
        int fault;
        int place;
        /** The word or number that was seen last: where, how long, its letters packed, its worth. */
        int start;
        int span;
        int code;
        int value;

        Tape() {
            octets = new int[ROOM];
            place = NONE;
        }

        void append(int number) {
            for (int shift = 24; shift >= 0 && length < ROOM; shift -= 8) {
                octets[length] = number >>> shift & 255;
                length++;
            }
        }

        int octetAt(int k) {
            return k >= 0 && k < length ? octets[k] : NONE;
        }

        void begin() {
            at = 0;
            fault = 0;
            place = NONE;
        }

        /** Always false, so that a reader can end with it. */
        boolean blame(int kind, int where) {
            fault = kind;
            place = where;
            return false;
        }

        /** The next byte that is no blank; NONE at the end. */
        int look() {
            while (at < length && (octets[at] == LINE_END || octets[at] == BLANK)) {
                at++;
            }
            return at < length ? octets[at] : NONE;
        }

        /** A word that a number touches is none. */
        boolean seesWord() {
            if (!isLetter(look()) || isDigit(octetAt(at - 1))) {
                return false;
            }
            start = at;
            span = 0;
            code = 0;
            for (int k = at; k < length && isLetter(octetAt(k)); k++) {
                if (span < LONGEST) {
                    code |= octets[k] - 96 << 25 - 5 * span;
                }
                span++;
            }
            return true;
        }

        void pass() {
            at = start + span;
        }

        /** Which one of the table the word is that was seen; NONE when it is none of these. */
        int rankIn(int[] table) {
            for (int k = 0; k < table.length; k++) {
                if (table[k] == code && span <= LONGEST) {
                    return k;
                }
            }
            return NONE;
        }

        boolean takes(int octet) {
            if (look() != octet) {
                return blame(WRONG_TEXT, at);
            }
            at++;
            return true;
        }

        boolean takesWordOf(int[] table, int rank) {
            if (!seesWord() || rankIn(table) != rank) {
                return blame(WRONG_TEXT, at);
            }
            pass();
            return true;
        }

        /** Where a WORD is asked. */
        boolean takesFreeWord(int[] ownWords) {
            if (!seesWord()) {
                return blame(WRONG_TEXT, at);
            }
            if (span > LONGEST) {
                return blame(WRONG_TEXT, start + LONGEST);
            }
            if (rankIn(ownWords) != NONE) {
                return blame(WRONG_TEXT, start);
            }
            pass();
            return true;
        }

        /** Where a number is asked; one that a word touches is none. */
        boolean takesNumber(int least, int most) {
            if (!isDigit(look()) || isLetter(octetAt(at - 1))) {
                return blame(WRONG_TEXT, at);
            }
            start = at;
            value = 0;
            for (span = 0; span <= MOST_DIGITS && isDigit(octetAt(start + span)); span++) {
                value = value * 10 + octetAt(start + span) - 48;
            }
            if (span > MOST_DIGITS) {
                return blame(WRONG_TEXT, start + MOST_DIGITS);
            }
            pass();
            return value >= least && value <= most || blame(WRONG_NUMBER, start);
        }

        /** Five bits a letter, so that two words are compared at once; a table has six signs for each word. */
        static int[] pack(String table) {
            int[] codes = new int[table.length() / LONGEST];
            for (int k = 0; k < table.length(); k++) {
                int letter = table.charAt(k);
                int slot = k / LONGEST;
                if (letter != BLANK && slot < codes.length) {
                    codes[slot] |= letter - 96 << 25 - 5 * (k % LONGEST);
                }
            }
            return codes;
        }

        private static boolean isLetter(int octet) {
            return octet >= 97 && octet <= 122;
        }

        private static boolean isDigit(int octet) {
            return octet >= 48 && octet <= 57;
        }
    }

    /** What wishes, peace or judgments tell: a list of CASES, each forbidden or free. */
    private static final class Told {
        private static final int ANY = -1;

        private final boolean[] forbid;
        private final int[] ones;
        private final int[] party;
        private final int[] worthOfCase;
        private final long[] cases;
        int size;
        long allForbidden;
        long allFree;

        Told(int most) {
            forbid = new boolean[most];
            ones = new int[most * SORTS];
            party = new int[most];
            worthOfCase = new int[most];
            cases = new long[most];
        }

        boolean isFull() {
            return size >= cases.length;
        }

        void clear() {
            size = 0;
            allForbidden = 0;
            allFree = 0;
        }

        /** The one that is being told stands behind the others till it is closed. */
        void setParty(int ofParty) {
            if (!isFull()) {
                party[size] = ofParty;
            }
        }

        void setHow(boolean forbidden) {
            if (!isFull()) {
                forbid[size] = forbidden;
            }
        }

        void setOne(int sort, int word) {
            int k = size * SORTS + sort;
            if (k >= 0 && k < ones.length) {
                ones[k] = word;
            }
        }

        boolean close(int perCase) {
            if (isFull()) {
                return false;
            }
            worthOfCase[size] = perCase;
            size++;
            return true;
        }

        /** Which CASES there are is known only when the whole TONGUE is. */
        void settle(long all, long[] holds) {
            for (int k = 0; k < size; k++) {
                cases[k] = all;
                for (int one = k * SORTS; one < (k + 1) * SORTS; one++) {
                    int word = ones[one];
                    if (word >= 0 && word < holds.length) {
                        cases[k] &= holds[word];
                    }
                }
                allForbidden |= forbid[k] ? cases[k] : 0;
                allFree |= forbid[k] ? 0 : cases[k];
            }
        }

        boolean areAllKept(long forbidden) {
            return (allForbidden & ~forbidden) == 0 && (allFree & forbidden) == 0;
        }

        int firstBroken(long forbidden) {
            for (int k = 0; k < size; k++) {
                long broken = forbid[k] ? cases[k] & ~forbidden : cases[k] & forbidden;
                if (broken != 0) {
                    return k;
                }
            }
            return NONE;
        }

        int worthOf(int k, long forbidden) {
            long asWished = forbid[k] ? cases[k] & forbidden : cases[k] & ~forbidden;
            return worthOfCase[k] * Long.bitCount(asWished);
        }
    }

    /** WORDS and what they mean, the limit, PARTIES, WISHES, peace and JUDGMENTS. */
    private static final class Tongue {
        private static final int FIRST_PARTY = 20;
        private static final int MOST_PARTIES = 5;
        private static final int MOST_LIKE = 6;

        /** Letters of WORDS by SIGNS, of PARTIES behind them; 0 where there is none. */
        private final int[] codes;
        private final int[] wordsOf;
        private final int[] meant;
        private final int[] votesOf;
        private final int[] gain;
        final long[] holds;
        final Told wishes;
        final Told peace;
        final Told judgments;
        int likes;
        int limit;
        int parties;
        int cases;
        long all;

        Tongue() {
            codes = new int[FIRST_PARTY + MOST_PARTIES];
            wordsOf = new int[SORTS];
            meant = new int[MOST_LIKE];
            votesOf = new int[MOST_PARTIES];
            gain = new int[MOST_PARTIES];
            holds = new long[AND];
            wishes = new Told(16);
            peace = new Told(8);
            judgments = new Told(10);
            limit = 40;
        }

        void clear() {
            Arrays.fill(codes, 0);
            Arrays.fill(wordsOf, 0);
            Arrays.fill(holds, 0L);
            wishes.clear();
            peace.clear();
            judgments.clear();
            likes = 0;
            limit = 40;
            parties = 0;
            cases = 0;
            all = 0;
        }

        int number(int what) {
            switch (what) {
                case 0:
                case 1:
                case 2:
                    return wordsOf[what];
                case 3:
                    return likes;
                case 4:
                    return limit;
                case 5:
                    return parties;
                case 6:
                    return wishes.size;
                case 7:
                    return peace.size;
                case 8:
                    return judgments.size;
                case 9:
                    return cases;
                default:
                    return NONE;
            }
        }

        boolean isFull(int kind) {
            switch (kind) {
                case 0:
                case 1:
                case 2:
                    return wordsOf[kind] >= WORDS_OF_SORT;
                case 3:
                    return likes >= MOST_LIKE;
                case 5:
                    return parties >= MOST_PARTIES;
                case 6:
                    return wishes.isFull();
                case 7:
                    return peace.isFull();
                case 8:
                    return judgments.isFull();
                default:
                    return false;
            }
        }

        int find(int code) {
            for (int sign = 0; sign < codes.length; sign++) {
                if (codes[sign] == code) {
                    return sign;
                }
            }
            return NONE;
        }

        boolean isParty(int found) {
            return found >= FIRST_PARTY && found < FIRST_PARTY + parties;
        }

        void addWord(int sort, int code) {
            if (sort >= 0 && sort < SORTS && !isFull(sort)) {
                codes[sort * WORDS_OF_SORT + wordsOf[sort]] = code;
                wordsOf[sort]++;
            }
        }

        void addLike(int code, int meaning) {
            if (likes < MOST_LIKE) {
                codes[FIRST_LIKE + likes] = code;
                meant[likes] = meaning;
                likes++;
            }
        }

        void addParty(int code, int itsVotes) {
            if (parties < MOST_PARTIES) {
                codes[FIRST_PARTY + parties] = code;
                votesOf[parties] = itsVotes;
                parties++;
            }
        }

        /** The whole text was read: now it is known how many CASES there are. */
        void settle() {
            for (int when = 0; when < wordsOf[2]; when++) {
                for (int what = 0; what < wordsOf[1]; what++) {
                    for (int who = 0; who < wordsOf[0]; who++) {
                        long one = 1L << cases;
                        holds[who] |= one;
                        holds[WORDS_OF_SORT + what] |= one;
                        holds[2 * WORDS_OF_SORT + when] |= one;
                        all |= one;
                        cases++;
                    }
                }
            }
            for (int k = 0; k < likes; k++) {
                if (meant[k] >= 0 && meant[k] < FIRST_LIKE + k) {
                    holds[FIRST_LIKE + k] = holds[meant[k]];
                }
            }
            wishes.settle(all, holds);
            peace.settle(all, holds);
            judgments.settle(all, holds);
        }

        int letterOf(int sign, int k) {
            if (sign < 0 || sign >= codes.length || k < 0 || k >= Tape.LONGEST || codes[sign] == 0) {
                return NONE;
            }
            return codes[sign] >> 25 - 5 * k & 31;
        }

        boolean hasSign(int sign) {
            return sign >= 0 && sign < SIGNS && (sign >= AND || codes[sign] != 0);
        }

        boolean isCase(int number) {
            return number >= 0 && number < cases;
        }

        boolean keepsPeace(long forbidden) {
            return peace.areAllKept(forbidden);
        }

        int worthFor(int party, long forbidden) {
            if (party < 0 || party >= parties) {
                return NONE;
            }
            int sum = 0;
            for (int k = 0; k < wishes.size; k++) {
                if (wishes.party[k] == party) {
                    sum += wishes.worthOf(k, forbidden);
                }
            }
            return sum;
        }

        int votesOn(long old, long fresh, boolean yes) {
            weighGains(old, fresh);
            int sum = 0;
            for (int party = 0; party < parties; party++) {
                if (yes ? gain[party] > 0 : gain[party] < 0) {
                    sum += votesOf[party];
                }
            }
            return sum;
        }

        boolean isVoted(long old, long fresh) {
            if (old == fresh) {
                return false;
            }
            weighGains(old, fresh);
            int balance = 0;
            for (int party = 0; party < parties; party++) {
                if (gain[party] != 0) {
                    balance += gain[party] > 0 ? votesOf[party] : -votesOf[party];
                }
            }
            return balance > 0;
        }

        private void weighGains(long old, long fresh) {
            Arrays.fill(gain, 0);
            for (int k = 0; k < wishes.size; k++) {
                int party = wishes.party[k];
                if (party >= 0 && party < gain.length) {
                    gain[party] += wishes.worthOf(k, fresh) - wishes.worthOf(k, old);
                }
            }
        }
    }

    /** Reads a TONGUE from the tape. */
    private static final class TongueReader {
        private static final int MOST_STATEMENTS = 70;
        /** Six signs for each; the first nine begin STATEMENTS, in the order of has(). */
        private static final String OWN_WORDS =
            "who   what  when  like  limit party wish  peace judgedvotes worth forbidfree  any   and   or    not   unless";
        private static final int LIKE = 3;
        private static final int LIMIT = 4;
        private static final int PARTY = 5;
        private static final int WISH = 6;
        private static final int PEACE = 7;
        private static final int JUDGED = 8;
        private static final int VOTES = 9;
        private static final int WORTH = 10;
        private static final int FORBID = 11;
        private static final int FREE = 12;
        private static final int ANY = 13;

        private final Tape tape;
        private final int[] ownWords;

        TongueReader(Tape tape) {
            this.tape = tape;
            ownWords = Tape.pack(OWN_WORDS);
        }

        int read(Tongue tongue) {
            tongue.clear();
            tape.begin();
            int count = 0;
            while (count < MOST_STATEMENTS && tape.look() != NONE) {
                int kind = takesKind(tongue);
                if (kind == NONE || !takesRest(tongue, kind) || !tape.takes(';')) {
                    return NONE;
                }
                count++;
            }
            if (tape.look() != NONE) {
                tape.blame(TOO_MANY, tape.at);
                return NONE;
            }
            tongue.settle();
            return count;
        }

        private int takesKind(Tongue tongue) {
            int kind = tape.seesWord() ? tape.rankIn(ownWords) : NONE;
            if (kind == NONE || kind > JUDGED) {
                tape.blame(WRONG_TEXT, tape.at);
                return NONE;
            }
            if (tongue.isFull(kind)) {
                tape.blame(TOO_MANY, tape.at);
                return NONE;
            }
            tape.pass();
            return kind;
        }

        private boolean takesRest(Tongue tongue, int kind) {
            switch (kind) {
                case LIKE:
                    return takesLike(tongue);
                case LIMIT:
                    return takesLimit(tongue);
                case PARTY:
                    return takesParty(tongue);
                case WISH:
                    return takesWisher(tongue) && takesCases(tongue, tongue.wishes) && takesWorth(tongue.wishes);
                case PEACE:
                    return takesCases(tongue, tongue.peace) && tongue.peace.close(0);
                case JUDGED:
                    return takesCases(tongue, tongue.judgments) && tongue.judgments.close(0);
                default:
                    return takesWordOfSort(tongue, kind);
            }
        }

        private boolean takesNewWord(Tongue tongue) {
            if (!tape.takesFreeWord(ownWords)) {
                return false;
            }
            return tongue.find(tape.code) == NONE || tape.blame(WRONG_WORD, tape.start);
        }

        private boolean takesWordOfSort(Tongue tongue, int sort) {
            if (!takesNewWord(tongue)) {
                return false;
            }
            tongue.addWord(sort, tape.code);
            return true;
        }

        private boolean takesLike(Tongue tongue) {
            if (!takesNewWord(tongue)) {
                return false;
            }
            int code = tape.code;
            if (!tape.takesFreeWord(ownWords)) {
                return false;
            }
            int meaning = tongue.find(tape.code);
            if (meaning == NONE || tongue.isParty(meaning)) {
                return tape.blame(WRONG_WORD, tape.start);
            }
            tongue.addLike(code, meaning);
            return true;
        }

        private boolean takesLimit(Tongue tongue) {
            if (!tape.takesNumber(1, 40)) {
                return false;
            }
            tongue.limit = tape.value;
            return true;
        }

        private boolean takesParty(Tongue tongue) {
            if (!takesNewWord(tongue)) {
                return false;
            }
            int code = tape.code;
            if (!tape.takesWordOf(ownWords, VOTES) || !tape.takesNumber(1, 9)) {
                return false;
            }
            tongue.addParty(code, tape.value);
            return true;
        }

        private boolean takesWisher(Tongue tongue) {
            if (!tape.takesFreeWord(ownWords)) {
                return false;
            }
            int found = tongue.find(tape.code);
            if (!tongue.isParty(found)) {
                return tape.blame(WRONG_WORD, tape.start);
            }
            tongue.wishes.setParty(found - Tongue.FIRST_PARTY);
            return true;
        }

        private boolean takesWorth(Told wishes) {
            return tape.takesWordOf(ownWords, WORTH) && tape.takesNumber(1, 99) && wishes.close(tape.value);
        }

        /** HOW, and three ONEs. */
        private boolean takesCases(Tongue tongue, Told told) {
            int how = tape.seesWord() ? tape.rankIn(ownWords) : NONE;
            if (how != FORBID && how != FREE) {
                return tape.blame(WRONG_TEXT, tape.at);
            }
            tape.pass();
            told.setHow(how == FORBID);
            for (int sort = 0; sort < SORTS; sort++) {
                if (!takesOne(tongue, told, sort)) {
                    return false;
                }
            }
            return true;
        }

        private boolean takesOne(Tongue tongue, Told told, int sort) {
            if (tape.seesWord() && tape.rankIn(ownWords) == ANY) {
                tape.pass();
                told.setOne(sort, Told.ANY);
                return true;
            }
            if (!tape.takesFreeWord(ownWords)) {
                return false;
            }
            int word = tongue.find(tape.code);
            int first = sort * WORDS_OF_SORT;
            if (word < first || word >= first + WORDS_OF_SORT) {
                return tape.blame(WRONG_WORD, tape.start);
            }
            told.setOne(sort, word);
            return true;
        }
    }

    /** Reads a LAW from the tape. */
    private static final class LawReader {
        private static final int RANK_OF_AND = 14;

        private final Tape tape;
        private final int[] ownWords;

        LawReader(Tape tape) {
            this.tape = tape;
            ownWords = Tape.pack(TongueReader.OWN_WORDS);
        }

        boolean read(Tongue tongue, Row row) {
            tape.begin();
            row.clear();
            int state = Row.OPENING;
            for (int count = 0; count <= MOST_SIGNS; count++) {
                int octet = tape.look();
                if (octet == NONE) {
                    return state == Row.OPENING || tape.blame(WRONG_TEXT, tape.length);
                }
                if (!hasRoom(tongue, row, octet)) {
                    return tape.blame(TOO_MANY, tape.at);
                }
                int sign = octet == '.' ? takesStop(state) : takesWord(tongue, state);
                if (sign == NONE) {
                    return false;
                }
                row.add(sign);
                state = Row.next(state, sign);
            }
            return false;
        }

        /** Too many comes ahead of what else may be wrong with a WORD or a stop. */
        private boolean hasRoom(Tongue tongue, Row row, int octet) {
            if (tape.seesWord()) {
                return row.words < tongue.limit && row.size < MOST_SIGNS;
            }
            return octet != '.' || row.size < MOST_SIGNS;
        }

        private int takesStop(int state) {
            if (Row.next(state, STOP) == NONE) {
                tape.blame(WRONG_TEXT, tape.at);
                return NONE;
            }
            tape.at++;
            return STOP;
        }

        private int takesWord(Tongue tongue, int state) {
            int rank = tape.seesWord() ? tape.rankIn(ownWords) : NONE;
            if (rank >= RANK_OF_AND && Row.next(state, rank - RANK_OF_AND + AND) != NONE) {
                tape.pass();
                return rank - RANK_OF_AND + AND;
            }
            if (Row.next(state, 0) == NONE) {
                tape.blame(WRONG_TEXT, tape.at);
                return NONE;
            }
            if (!tape.takesFreeWord(ownWords)) {
                return NONE;
            }
            int sign = tongue.find(tape.code);
            if (sign == NONE || tongue.isParty(sign)) {
                tape.blame(WRONG_WORD, tape.start);
                return NONE;
            }
            return sign;
        }
    }

    /** A row of SIGNS, and what it means as a LAW. */
    private static final class Row {
        /** Ahead of a SENTENCE: the one state in which a LAW may end. */
        static final int OPENING = 0;
        /** By states (opening; TERM asked; behind a TERM; both behind unless), then WORD, and or, not, unless, stop. */
        private static final int[] NEXT = {
            2, -1, 1, -1, -1,
            2, -1, 1, -1, -1,
            -1, 1, -1, 3, 0,
            4, -1, 3, -1, -1,
            -1, 3, -1, -1, 0,
        };
        private static final int KINDS = 5;

        final int[] sign;
        int size;
        int words;
        /** The state ahead of each place, so that a change is tried from its place on. */
        private final int[] before;
        /** Where each SENTENCE begins, and behind them where the row ends. */
        private final int[] openings;
        final long[] borneBy;
        int sentences;
        long forbidden;
        private int at;

        Row() {
            sign = new int[MOST_SIGNS];
            before = new int[MOST_SIGNS + 1];
            openings = new int[MOST_SENTENCES + 1];
            borneBy = new long[MOST_SENTENCES];
        }

        /** The next state; NONE when no LAW goes on so. */
        static int next(int state, int sign) {
            int kind = sign < AND ? 0 : sign <= OR ? 1 : sign - 18;
            int k = state * KINDS + kind;
            return state >= 0 && kind < KINDS && k < NEXT.length ? NEXT[k] : NONE;
        }

        void clear() {
            size = 0;
            words = 0;
            sentences = 0;
            forbidden = 0;
            before[0] = OPENING;
            openings[0] = 0;
        }

        void add(int given) {
            if (size < MOST_SIGNS) {
                sign[size] = given;
                size++;
                words += weight(given);
            }
        }

        void copy(Row from) {
            System.arraycopy(from.sign, 0, sign, 0, from.size);
            size = from.size;
        }

        /** Signs from an image's bytes, first how many: the place behind them; NONE when they are not all there. */
        int load(Tape tape, int first) {
            int count = tape.octetAt(first);
            if (count == NONE || count > MOST_SIGNS || first + count >= tape.length) {
                return NONE;
            }
            clear();
            for (int k = 0; k < count; k++) {
                add(tape.octetAt(first + 1 + k));
            }
            return first + 1 + count;
        }

        boolean isLawful(Tongue tongue) {
            int state = OPENING;
            for (int place = 0; place < size && state != NONE; place++) {
                state = tongue.hasSign(sign[place]) ? next(state, sign[place]) : NONE;
            }
            return state == OPENING && words <= tongue.limit;
        }

        boolean isSame(Row other) {
            boolean same = size == other.size;
            for (int place = 0; place < size && same; place++) {
                same = sign[place] == other.sign[place];
            }
            return same;
        }

        /** What a LAWFUL row means. */
        void weigh(Tongue tongue) {
            words = 0;
            int state = OPENING;
            for (int place = 0; place < size; place++) {
                before[place] = state;
                state = next(state, sign[place]);
                words += weight(sign[place]);
            }
            before[size] = state;
            sentences = 0;
            forbidden = 0;
            at = 0;
            for (int k = 0; k < MOST_SENTENCES && at < size; k++) {
                openings[k] = at;
                borneBy[k] = weighSentence(tongue);
                forbidden |= borneBy[k];
                sentences++;
            }
            openings[sentences] = size;
        }

        /** What the SENTENCE forbids that begins where the eye is; the eye is behind it then. */
        private long weighSentence(Tongue tongue) {
            long ahead = tongue.all;
            long held = 0;
            boolean narrows = false;
            boolean denied = false;
            boolean excepted = false;
            for (; at < size && sign[at] != STOP; at++) {
                int here = sign[at];
                if (here == NOT) {
                    denied = !denied;
                } else if (here == UNLESS) {
                    ahead = held;
                    held = 0;
                    narrows = false;
                    excepted = true;
                } else if (here >= AND) {
                    narrows = here == AND;
                } else {
                    long term = denied ? ~tongue.holds[here] : tongue.holds[here];
                    held = narrows ? held & term : held | term;
                    denied = false;
                }
            }
            at++;
            return (excepted ? ahead & ~held : held) & tongue.all;
        }

        int idleSentences() {
            int idle = 0;
            for (int k = 0; k < sentences; k++) {
                long others = 0;
                for (int j = 0; j < sentences; j++) {
                    others |= j == k ? 0 : borneBy[j];
                }
                idle += truth(others == forbidden);
            }
            return idle;
        }

        int bearer(int number, int k) {
            int met = 0;
            for (int sentence = 0; sentence < sentences; sentence++) {
                if (isIn(borneBy[sentence], number)) {
                    if (met == k) {
                        return sentence;
                    }
                    met++;
                }
            }
            return NONE;
        }

        /** Whether this row becomes the LAWFUL one that the base is behind the change (whatever THE PEACE is). */
        boolean follows(Tongue tongue, Row base, int number) {
            if (!base.canTurn(tongue, number)) {
                return false;
            }
            turn(base, number);
            weighBeside(tongue, base, number / CHOICES);
            return true;
        }

        private static int givenBy(int choice) {
            return choice >= FIRST_PUT ? choice - FIRST_PUT : choice - FIRST_SWAP;
        }

        private boolean canTurn(Tongue tongue, int number) {
            int place = number / CHOICES;
            int choice = number % CHOICES;
            boolean puts = choice >= FIRST_PUT;
            int given = givenBy(choice);
            if (number < 0 || place > size || (puts ? size >= MOST_SIGNS : place == size)) {
                return false;
            }
            int state = given == NONE ? before[place] : next(before[place], given);
            if (state == NONE || given != NONE && !tongue.hasSign(given)) {
                return false;
            }
            int more = given == NONE ? 0 : weight(given);
            if (!puts) {
                more -= weight(sign[place]);
            }
            if (words + more > tongue.limit || !puts && given == sign[place]) {
                return false;
            }
            return goesOn(puts ? place : place + 1, state);
        }

        /** Once the state is as it was there, the rest is lawful as it was. */
        private boolean goesOn(int first, int stateThere) {
            int state = stateThere;
            for (int place = first; place < size; place++) {
                if (state == NONE || state == before[place]) {
                    return state != NONE;
                }
                state = next(state, sign[place]);
            }
            return state == OPENING;
        }

        private void turn(Row base, int number) {
            int place = number / CHOICES;
            int choice = number % CHOICES;
            int given = givenBy(choice);
            int from = choice >= FIRST_PUT ? place : place + 1;
            int to = given == NONE ? place : place + 1;
            System.arraycopy(base.sign, 0, sign, 0, place);
            if (given != NONE) {
                sign[place] = given;
            }
            System.arraycopy(base.sign, from, sign, to, base.size - from);
            size = to + base.size - from;
        }

        /** Only the SENTENCES that the change touches are weighed; the others mean what they did. */
        private void weighBeside(Tongue tongue, Row base, int place) {
            int touched = base.sentenceAt(place);
            int moved = size - base.size;
            forbidden = 0;
            for (int k = 0; k < touched; k++) {
                forbidden |= base.borneBy[k];
            }
            at = base.openings[touched];
            int rest = touched + 1;
            for (int k = 0; k < MOST_SENTENCES && at < size; k++) {
                forbidden |= weighSentence(tongue);
                while (rest < base.sentences && base.openings[rest] + moved < at) {
                    rest++;
                }
                if (base.openings[rest] + moved == at) {
                    break;
                }
            }
            for (int k = rest; k < base.sentences; k++) {
                forbidden |= base.borneBy[k];
            }
        }

        private int sentenceAt(int place) {
            int found = 0;
            while (found + 1 < sentences && openings[found + 1] <= place) {
                found++;
            }
            return found;
        }

        private static int weight(int given) {
            return given == STOP ? 0 : 1;
        }
    }

    /** The last LAWS that acts put away. */
    private static final class Acts {
        static final int MOST = 20;

        private final int[] signs;
        private final int[] sizes;
        private int newest;
        int count;

        Acts() {
            signs = new int[MOST * MOST_SIGNS];
            sizes = new int[MOST];
        }

        void forget() {
            count = 0;
        }

        void keep(Row row) {
            newest = (newest + 1) % MOST;
            sizes[newest] = row.size;
            System.arraycopy(row.sign, 0, signs, newest * MOST_SIGNS, row.size);
            if (count < MOST) {
                count++;
            }
        }

        void takeBack(Row row) {
            if (count > 0) {
                row.size = sizes[newest];
                System.arraycopy(signs, newest * MOST_SIGNS, row.sign, 0, row.size);
                newest = (newest + MOST - 1) % MOST;
                count--;
            }
        }
    }

    /** The SHORT SENTENCES of a TONGUE. */
    private static final class Shorts {
        private static final int MOST_LITERALS = 2 * SORT_WORDS;
        private static final int JOINTS = 3;
        private static final int MOST = MOST_LITERALS + JOINTS * MOST_LITERALS * MOST_LITERALS;
        private static final int SLOTS = 4096;
        private static final int SLOT_SHIFT = 52;
        private static final long SPREAD = 0x9E3779B97F4A7C15L;
        /** WORDS, SENTENCES, the first, the second. */
        private static final int ANSWERS = 4;

        private final long[] literals;
        private final long[] forbidden;
        /** Of each set of CASES that some SENTENCE forbids the one of fewest WORDS, the first of these. */
        private final int[] chosen;
        /** Where such a set's SENTENCE is among the chosen, and 1; 0 in a free slot. */
        private final int[] slots;
        private final int[] within;
        /** Of THE LAW, of THE OTHER LAW: for which set THE FEWEST were sought last, and what was found. */
        private final long[] goals;
        private final boolean[] sought;
        private final int[] found;
        private int literalCount;
        private int count;
        private int chosenCount;
        private int fitCount;
        private long fitAll;
        private long fitSome;
        private boolean ready;

        Shorts() {
            literals = new long[MOST_LITERALS];
            forbidden = new long[MOST];
            chosen = new int[MOST];
            slots = new int[SLOTS];
            within = new int[MOST];
            goals = new long[2];
            sought = new boolean[2];
            found = new int[2 * ANSWERS];
        }

        void forget() {
            ready = false;
            sought[0] = false;
            sought[1] = false;
        }

        int total(Tongue tongue) {
            prepare(tongue);
            return count;
        }

        int tell(Tongue tongue, int sentence, int what) {
            prepare(tongue);
            if (sentence < 0 || sentence >= count) {
                return NONE;
            }
            switch (what) {
                case 0:
                    return wordsOf(sentence);
                case 1:
                    return Long.bitCount(forbidden[sentence]);
                case 2:
                    return truth(tongue.judgments.areAllKept(forbidden[sentence]));
                default:
                    return NONE;
            }
        }

        int fittingOnes(Tongue tongue, int what) {
            prepare(tongue);
            switch (what) {
                case 0:
                    return fitCount;
                case 1:
                    return fitCount == 0 ? 0 : Long.bitCount(fitAll);
                case 2:
                    return Long.bitCount(fitSome);
                default:
                    return NONE;
            }
        }

        /** whose: 0 of THE LAW, 1 of THE OTHER LAW. */
        int fewestFor(Tongue tongue, long goal, int whose, int what) {
            if (what < 0 || what >= ANSWERS || whose < 0 || whose >= goals.length) {
                return NONE;
            }
            int base = whose * ANSWERS;
            if (!sought[whose] || goals[whose] != goal) {
                prepare(tongue);
                seek(goal, base);
                goals[whose] = goal;
                sought[whose] = true;
            }
            return found[base + what];
        }

        /** Once for each TONGUE, and only when it is asked for. */
        private void prepare(Tongue tongue) {
            if (ready) {
                return;
            }
            ready = true;
            listLiterals(tongue);
            listSentences();
            chooseSentences();
            gatherFitting(tongue);
        }

        private void listLiterals(Tongue tongue) {
            literalCount = 0;
            for (int word = 0; word < SORT_WORDS; word++) {
                if (tongue.hasSign(word)) {
                    literals[literalCount] = tongue.holds[word];
                    literals[literalCount + 1] = tongue.all & ~tongue.holds[word];
                    literalCount += 2;
                }
            }
        }

        private void listSentences() {
            for (int first = 0; first < literalCount; first++) {
                forbidden[first] = literals[first];
            }
            count = literalCount;
            for (int first = 0; first < literalCount; first++) {
                for (int second = 0; second < literalCount; second++) {
                    forbidden[count] = literals[first] & literals[second];
                    forbidden[count + 1] = literals[first] | literals[second];
                    forbidden[count + 2] = literals[first] & ~literals[second];
                    count += JOINTS;
                }
            }
        }

        private void chooseSentences() {
            Arrays.fill(slots, 0);
            chosenCount = 0;
            for (int sentence = 0; sentence < count; sentence++) {
                int slot = slotOf(forbidden[sentence]);
                int k = slots[slot] - 1;
                if (k < 0) {
                    chosen[chosenCount] = sentence;
                    chosenCount++;
                    slots[slot] = chosenCount;
                } else if (wordsOf(sentence) < wordsOf(chosen[k])) {
                    chosen[k] = sentence;
                }
            }
        }

        private void gatherFitting(Tongue tongue) {
            fitCount = 0;
            fitAll = tongue.all;
            fitSome = 0;
            for (int sentence = 0; sentence < count; sentence++) {
                if (tongue.judgments.areAllKept(forbidden[sentence])) {
                    fitCount++;
                    fitAll &= forbidden[sentence];
                    fitSome |= forbidden[sentence];
                }
            }
        }

        /** The slot of a set, or the free one where it belongs: there are more slots than SENTENCES. */
        private int slotOf(long set) {
            int slot = (int) (set * SPREAD >>> SLOT_SHIFT);
            for (int tries = 0; tries < SLOTS; tries++) {
                int k = slots[slot] - 1;
                if (k < 0 || forbidden[chosen[k]] == set) {
                    return slot;
                }
                slot = (slot + 1) % SLOTS;
            }
            return slot;
        }

        private int wordsOf(int sentence) {
            if (sentence < literalCount || literalCount == 0) {
                return 1 + sentence % 2;
            }
            int pair = (sentence - literalCount) / JOINTS;
            return 3 + pair / literalCount % 2 + pair % literalCount % 2;
        }

        private void seek(long goal, int base) {
            if (goal == 0) {
                note(base, 0, 0, NONE, NONE);
                return;
            }
            int k = slots[slotOf(goal)] - 1;
            if (k < 0) {
                note(base, NONE, NONE, NONE, NONE);
            } else {
                note(base, wordsOf(chosen[k]), 1, chosen[k], NONE);
            }
            seekPairs(goal, base);
        }

        private void note(int base, int words, int sentences, int first, int second) {
            found[base] = words;
            found[base + 1] = sentences;
            found[base + 2] = first;
            found[base + 3] = second;
        }

        private void seekPairs(long goal, int base) {
            int inside = gatherWithin(goal);
            long lowest = goal & -goal;
            for (int i = 0; i < inside; i++) {
                long lacking = goal & ~forbidden[within[i]];
                if ((lacking & lowest) != 0) {
                    continue;
                }
                for (int j = 0; j < inside; j++) {
                    if ((lacking & ~forbidden[within[j]]) == 0) {
                        weighPair(within[i], within[j], base);
                    }
                }
            }
        }

        /** SENTENCES that forbid some of the goal and nothing else: two of them may forbid it together. */
        private int gatherWithin(long goal) {
            int inside = 0;
            for (int k = 0; k < chosenCount; k++) {
                long set = forbidden[chosen[k]];
                if (set != 0 && set != goal && (set & ~goal) == 0) {
                    within[inside] = chosen[k];
                    inside++;
                }
            }
            return inside;
        }

        private void weighPair(int one, int another, int base) {
            int words = wordsOf(one) + wordsOf(another);
            int first = Math.min(one, another);
            int second = Math.max(one, another);
            boolean better = found[base] == NONE || words < found[base];
            if (words == found[base] && found[base + 1] == 2) {
                better = first < found[base + 2] || first == found[base + 2] && second < found[base + 3];
            }
            if (better) {
                note(base, words, 2, first, second);
            }
        }
    }

    /** The shortest WAY from one LAW to another. */
    private static final class Way {
        private static final int MOST_STEPS = 3;
        private static final int LONGEST_LAW = 20;

        private final Row[] stages;

        Way() {
            stages = new Row[MOST_STEPS - 1];
            for (int k = 0; k < stages.length; k++) {
                stages[k] = new Row();
            }
        }

        int measure(Tongue tongue, Row from, Row to) {
            if (from.isSame(to)) {
                return 0;
            }
            if (from.size > LONGEST_LAW || to.size > LONGEST_LAW || !tongue.keepsPeace(to.forbidden)) {
                return NONE;
            }
            for (int steps = 1; steps <= MOST_STEPS; steps++) {
                if (isNear(from, 0, to, 0, steps) && leads(tongue, from, to, steps)) {
                    return steps;
                }
            }
            return NONE;
        }

        /** Whether so many CHANGES lead there, when fewer do not; the two are so near as rows. */
        private boolean leads(Tongue tongue, Row from, Row to, int steps) {
            if (steps <= 1 || steps > MOST_STEPS) {
                return steps == 1;
            }
            boolean tight = !isNear(from, 0, to, 0, steps - 1);
            Row stage = stages[steps - 2];
            int behind = (from.size + 1) * CHOICES;
            for (int number = 0; number < behind; number++) {
                if (tight && !isOnTheWay(to, number, steps - 1)) {
                    continue;
                }
                if (stage.follows(tongue, from, number) && tongue.keepsPeace(stage.forbidden)
                    && isNear(stage, 0, to, 0, steps - 1)) {
                    stage.weigh(tongue);
                    if (leads(tongue, stage, to, steps - 1)) {
                        return true;
                    }
                }
            }
            return false;
        }

        /** Without a step to spare a given SIGN must stay, and the steps left can move it only so far. */
        private static boolean isOnTheWay(Row to, int number, int left) {
            int given = Row.givenBy(number % CHOICES);
            if (given == NONE) {
                return true;
            }
            int place = number / CHOICES;
            for (int k = Math.max(0, place - left); k <= place + left && k < to.size; k++) {
                if (to.sign[k] == given) {
                    return true;
                }
            }
            return false;
        }

        /** Whether a row from place i on becomes another from place j on by so many steps, lawful or not. */
        private static boolean isNear(Row from, int i, Row to, int j, int steps) {
            int place = i;
            int goal = j;
            while (place < from.size && goal < to.size && from.sign[place] == to.sign[goal]) {
                place++;
                goal++;
            }
            int left = from.size - place;
            int asked = to.size - goal;
            if (left == 0 || asked == 0 || steps == 0) {
                return Math.max(left, asked) <= steps;
            }
            if (Math.abs(left - asked) > steps) {
                return false;
            }
            return isNear(from, place + 1, to, goal + 1, steps - 1)
                || isNear(from, place + 1, to, goal, steps - 1)
                || isNear(from, place, to, goal + 1, steps - 1);
        }
    }

    /** A QUESTION: read once into steps of a small stack machine, then run for each CASE. */
    private static final class Question {
        /** Six signs for each. */
        private static final String WORDS =
            "first last  often total most  least all   case  who   what  when  law   other borne min   max   and   or    not   ";
        private static final int FIRST = 0;
        private static final int LAST = 1;
        private static final int OFTEN = 2;
        private static final int TOTAL = 3;
        private static final int MOST = 4;
        private static final int LEAST = 5;
        private static final int ALL = 6;
        private static final int CASE = 7;
        private static final int WHO = 8;
        private static final int WHAT = 9;
        private static final int WHEN = 10;
        private static final int THE_LAW = 11;
        private static final int THE_OTHER = 12;
        private static final int BORNE = 13;
        private static final int LOWER = 14;
        private static final int HIGHER = 15;
        private static final int BOTH = 16;
        private static final int EITHER = 17;
        private static final int DENIED = 18;
        /** A step of so much and N gives N; all other steps are words' ranks or bytes. */
        private static final int NUMBER = 1000;
        private static final int MOST_OPEN = 6;
        private static final long BOUND = 1000000L;
        /** Six open at once hold at most six each. */
        private static final int DEPTH = 64;

        private final Tape tape;
        private final int[] words;
        private final int[] steps;
        private final long[] stack;
        private int length;
        private int open;
        private int kind;
        private int top;
        private Tongue tongue;
        private Row law;
        private Row other;

        Question(Tape tape) {
            this.tape = tape;
            words = Tape.pack(WORDS);
            steps = new int[Tape.ROOM];
            stack = new long[DEPTH];
        }

        boolean read() {
            tape.begin();
            length = 0;
            open = 0;
            kind = tape.seesWord() ? tape.rankIn(words) : NONE;
            if (kind == NONE || kind > LEAST) {
                return tape.blame(WRONG_TEXT, tape.at);
            }
            tape.pass();
            if (!(kind <= OFTEN ? takesTest() : takesSum())) {
                return false;
            }
            return tape.look() == NONE || tape.blame(WRONG_TEXT, tape.at);
        }

        private boolean sees(int rank) {
            return tape.seesWord() && tape.rankIn(words) == rank;
        }

        private void then(int step) {
            if (length < steps.length) {
                steps[length] = step;
                length++;
            }
        }

        /** What is read open: it stands where the eye is. */
        private boolean opens() {
            if (open >= MOST_OPEN) {
                return tape.blame(TOO_DEEP, tape.at);
            }
            open++;
            return true;
        }

        private boolean takesTest() {
            if (!takesBoth()) {
                return false;
            }
            for (int turn = 0; turn < Tape.ROOM && sees(EITHER); turn++) {
                tape.pass();
                if (!takesBoth()) {
                    return false;
                }
                then(EITHER);
            }
            return true;
        }

        private boolean takesBoth() {
            if (!takesFact()) {
                return false;
            }
            for (int turn = 0; turn < Tape.ROOM && sees(BOTH); turn++) {
                tape.pass();
                if (!takesFact()) {
                    return false;
                }
                then(BOTH);
            }
            return true;
        }

        private boolean takesFact() {
            if (tape.look() == '[') {
                return takesBracket();
            }
            if (sees(DENIED)) {
                return takesDenied();
            }
            if (sees(ALL)) {
                tape.pass();
                then(ALL);
                return true;
            }
            return takesComparison();
        }

        private boolean takesBracket() {
            if (!opens()) {
                return false;
            }
            tape.at++;
            if (!takesTest() || !tape.takes(']')) {
                return false;
            }
            open--;
            return true;
        }

        private boolean takesDenied() {
            if (!opens()) {
                return false;
            }
            tape.pass();
            if (!takesFact()) {
                return false;
            }
            open--;
            then(DENIED);
            return true;
        }

        private boolean takesComparison() {
            if (!takesSum()) {
                return false;
            }
            int octet = tape.look();
            if (octet != '<' && octet != '>' && octet != '=') {
                return tape.blame(WRONG_TEXT, tape.at);
            }
            tape.at++;
            if (!takesSum()) {
                return false;
            }
            then(octet);
            return true;
        }

        private boolean takesSum() {
            if (!takesProduct()) {
                return false;
            }
            for (int turn = 0; turn < Tape.ROOM && (tape.look() == '+' || tape.look() == '-'); turn++) {
                int octet = tape.look();
                tape.at++;
                if (!takesProduct()) {
                    return false;
                }
                then(octet);
            }
            return true;
        }

        private boolean takesProduct() {
            if (!takesPart()) {
                return false;
            }
            for (int turn = 0; turn < Tape.ROOM && (tape.look() == '*' || tape.look() == '/'); turn++) {
                int octet = tape.look();
                tape.at++;
                if (!takesPart()) {
                    return false;
                }
                then(octet);
            }
            return true;
        }

        private boolean takesPart() {
            int octet = tape.look();
            if (octet >= '0' && octet <= '9') {
                return takesNumber();
            }
            if (octet == '(') {
                return takesHeld(NONE);
            }
            int rank = tape.seesWord() ? tape.rankIn(words) : NONE;
            if (rank == BORNE) {
                return takesBorne();
            }
            if (rank == LOWER || rank == HIGHER) {
                tape.pass();
                return takesHeld(rank);
            }
            if (rank < CASE || rank > THE_OTHER) {
                return tape.blame(WRONG_TEXT, tape.at);
            }
            tape.pass();
            then(rank);
            return true;
        }

        private boolean takesNumber() {
            if (!tape.takesNumber(0, 9999)) {
                return false;
            }
            then(NUMBER + tape.value);
            return true;
        }

        private boolean takesBorne() {
            if (!opens()) {
                return false;
            }
            tape.pass();
            if (!takesPart()) {
                return false;
            }
            open--;
            then(BORNE);
            return true;
        }

        /** ( SUM ), and behind min or max (chooser) ( SUM , SUM ). */
        private boolean takesHeld(int chooser) {
            if (tape.look() != '(') {
                return tape.blame(WRONG_TEXT, tape.at);
            }
            if (!opens()) {
                return false;
            }
            tape.at++;
            if (!takesSum()) {
                return false;
            }
            if (chooser != NONE) {
                if (!tape.takes(',') || !takesSum()) {
                    return false;
                }
                then(chooser);
            }
            if (!tape.takes(')')) {
                return false;
            }
            open--;
            return true;
        }

        long answer(Tongue ofTongue, Row ofLaw, Row ofOther) {
            tongue = ofTongue;
            law = ofLaw;
            other = ofOther;
            long result = kind == FIRST || kind == LAST ? NONE : 0;
            for (int number = 0; number < tongue.cases; number++) {
                long value = valueIn(number);
                if (kind == FIRST && value != 0) {
                    return number;
                }
                result = number == 0 && kind >= MOST ? value : joined(result, value, number);
            }
            return result;
        }

        private long joined(long result, long value, int number) {
            switch (kind) {
                case LAST:
                    return value != 0 ? number : result;
                case OFTEN:
                case TOTAL:
                    return result + value;
                case MOST:
                    return Math.max(result, value);
                case LEAST:
                    return Math.min(result, value);
                default:
                    return result;
            }
        }

        private long valueIn(int number) {
            top = 0;
            for (int k = 0; k < length; k++) {
                int step = steps[k];
                if (step >= NUMBER) {
                    push(step - NUMBER);
                } else if (step >= ALL && step <= THE_OTHER) {
                    push(plain(step, number));
                } else if (step == DENIED) {
                    push(1 - pop());
                } else if (step == BORNE) {
                    push(bornePart(pop(), number));
                } else {
                    long right = pop();
                    push(joint(step, pop(), right));
                }
            }
            return pop();
        }

        private void push(long value) {
            if (top < DEPTH) {
                stack[top] = value;
                top++;
            }
        }

        private long pop() {
            if (top > 0) {
                top--;
            }
            return stack[top];
        }

        private long plain(int step, int number) {
            int whos = tongue.number(0);
            int whats = tongue.number(1);
            if (whos <= 0 || whats <= 0) {
                return 0;
            }
            switch (step) {
                case ALL:
                    return 1;
                case CASE:
                    return number;
                case WHO:
                    return number % whos;
                case WHAT:
                    return number / whos % whats;
                case WHEN:
                    return number / whos / whats;
                case THE_LAW:
                    return truth(isIn(law.forbidden, number));
                case THE_OTHER:
                    return truth(isIn(other.forbidden, number));
                default:
                    return 0;
            }
        }

        private long bornePart(long sentence, int number) {
            if (sentence < 0 || sentence >= law.sentences) {
                return 0;
            }
            return truth(isIn(law.borneBy[(int) sentence], number));
        }

        private static long joint(int step, long left, long right) {
            switch (step) {
                case '+':
                    return held(left + right);
                case '-':
                    return held(left - right);
                case '*':
                    return held(left * right);
                case '/':
                    return right == 0 ? 0 : Math.floorDiv(left, right);
                case '<':
                    return truth(left < right);
                case '>':
                    return truth(left > right);
                case '=':
                    return truth(left == right);
                case LOWER:
                    return Math.min(left, right);
                case HIGHER:
                    return Math.max(left, right);
                case BOTH:
                    return left & right;
                default:
                    return left | right;
            }
        }

        private static long held(long value) {
            return Math.max(-BOUND, Math.min(BOUND, value));
        }
    }

    /** The bytes that tell both LAWS. */
    private static final class Image {
        private static final int SEAL_START = 101;
        private static final int SEAL_RANGE = 239;

        final int[] octets;
        int length;

        Image() {
            octets = new int[2 * MOST_SIGNS + 3];
        }

        void write(Row law, Row other) {
            length = 0;
            tell(law);
            tell(other);
            add(seal(octets, length));
        }

        private void tell(Row row) {
            add(row.size);
            for (int place = 0; place < row.size; place++) {
                add(row.sign[place]);
            }
        }

        private void add(int octet) {
            if (length < octets.length) {
                octets[length] = octet;
                length++;
            }
        }

        static int seal(int[] told, int count) {
            int seal = SEAL_START;
            for (int k = 0; k < count && k < told.length; k++) {
                seal = (5 * seal + told[k]) % SEAL_RANGE;
            }
            return seal;
        }
    }
}
