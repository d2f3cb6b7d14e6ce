import java.util.ArrayDeque;
import java.util.ArrayList;
import java.util.Deque;
import java.util.HashSet;
import java.util.LinkedHashMap;
import java.util.List;
import java.util.Map;
import java.util.Set;
import java.util.function.LongUnaryOperator;
import java.util.regex.Pattern;

/** The document once more, in the plainest way: lists, texts, and everything tried. Slow, and meant to be. */
final class Model {
    static final List<String> OWN = List.of("who", "what", "when", "like", "limit", "party", "votes", "wish", "peace",
        "judged", "forbid", "free", "any", "worth", "and", "or", "not", "unless");
    static final Pattern LAW = Pattern.compile("(n*w([ao]n*w)*(un*w([ao]n*w)*)?\\.)*");

    static final class Fault extends RuntimeException {
        final int kind;
        final int place;

        Fault(int kind, int place) {
            super(null, null, false, false);
            this.kind = kind;
            this.place = place;
        }
    }

    record Told(String party, boolean forbid, List<String> ones, int worth) { }

    record Token(char kind, String text, int start, boolean glued) { }

    record Fewest(int words, int sentences, int first, int second) { }

    /** A TONGUE. */
    static final class Speech {
        final List<List<String>> sorts = List.of(new ArrayList<>(), new ArrayList<>(), new ArrayList<>());
        final Map<String, String> likes = new LinkedHashMap<>();
        final Map<String, Integer> parties = new LinkedHashMap<>();
        final List<Told> wishes = new ArrayList<>();
        final List<Told> peace = new ArrayList<>();
        final List<Told> judgments = new ArrayList<>();
        int limit = 40;
        private List<Set<Integer>> shortSets;

        int cases() {
            return sorts.get(0).size() * sorts.get(1).size() * sorts.get(2).size();
        }

        /** The three words of a case. */
        List<String> wordsOf(int number) {
            int whos = sorts.get(0).size();
            int whats = sorts.get(1).size();
            return List.of(sorts.get(0).get(number % whos), sorts.get(1).get(number / whos % whats),
                sorts.get(2).get(number / (whos * whats)));
        }

        boolean isTold(Told told, int number) {
            for (int sort = 0; sort < 3; sort++) {
                String one = told.ones().get(sort);
                if (!one.equals("any") && !one.equals(wordsOf(number).get(sort))) {
                    return false;
                }
            }
            return true;
        }

        String word(int sign) {
            if (sign < 12) {
                List<String> sort = sorts.get(sign / 4);
                return sign % 4 < sort.size() ? sort.get(sign % 4) : null;
            }
            List<String> names = new ArrayList<>(likes.keySet());
            return sign < 18 && sign - 12 < names.size() ? names.get(sign - 12) : null;
        }

        int signOf(String word) {
            for (int sign = 0; sign < 18; sign++) {
                if (word.equals(word(sign))) {
                    return sign;
                }
            }
            return -1;
        }

        boolean isGiven(String word) {
            return signOf(word) >= 0 || parties.containsKey(word);
        }

        boolean holds(int sign, int number) {
            String word = word(sign);
            return wordsOf(number).contains(likes.getOrDefault(word, word));
        }

        boolean isLawful(List<Integer> row) {
            StringBuilder shape = new StringBuilder();
            for (int sign : row) {
                if (sign < 0 || sign > 22 || sign < 18 && word(sign) == null) {
                    return false;
                }
                shape.append(sign < 18 ? 'w' : "aonu.".charAt(sign - 18));
            }
            return row.size() <= 60 && wordCount(row) <= limit && LAW.matcher(shape).matches();
        }

        boolean termsHold(List<Integer> terms, int number) {
            boolean held = false;
            int joint = 19;
            boolean denied = false;
            for (int sign : terms) {
                if (sign == 20) {
                    denied = !denied;
                } else if (sign >= 18) {
                    joint = sign;
                } else {
                    boolean term = holds(sign, number) != denied;
                    held = joint == 18 ? held && term : held || term;
                    denied = false;
                }
            }
            return held;
        }

        boolean sentenceForbids(List<Integer> sentence, int number) {
            int unless = sentence.indexOf(21);
            if (unless < 0) {
                return termsHold(sentence, number);
            }
            return termsHold(sentence.subList(0, unless), number)
                && !termsHold(sentence.subList(unless + 1, sentence.size()), number);
        }

        Set<Integer> forbidden(List<Integer> row) {
            Set<Integer> set = new HashSet<>();
            for (List<Integer> sentence : sentencesOf(row)) {
                for (int number = 0; number < cases(); number++) {
                    if (sentenceForbids(sentence, number)) {
                        set.add(number);
                    }
                }
            }
            return set;
        }

        boolean isKept(Told told, Set<Integer> forbidden) {
            for (int number = 0; number < cases(); number++) {
                if (isTold(told, number) && forbidden.contains(number) != told.forbid()) {
                    return false;
                }
            }
            return true;
        }

        boolean keepsPeace(Set<Integer> forbidden) {
            return peace.stream().allMatch(told -> isKept(told, forbidden));
        }

        boolean fits(Set<Integer> forbidden) {
            return judgments.stream().allMatch(told -> isKept(told, forbidden));
        }

        int worth(String party, Set<Integer> forbidden) {
            int sum = 0;
            for (Told wish : wishes) {
                for (int number = 0; number < cases() && wish.party().equals(party); number++) {
                    if (isTold(wish, number) && forbidden.contains(number) == wish.forbid()) {
                        sum += wish.worth();
                    }
                }
            }
            return sum;
        }

        int votes(Set<Integer> old, Set<Integer> fresh, boolean yes) {
            int sum = 0;
            for (Map.Entry<String, Integer> party : parties.entrySet()) {
                int more = worth(party.getKey(), fresh) - worth(party.getKey(), old);
                sum += (yes ? more > 0 : more < 0) ? party.getValue() : 0;
            }
            return sum;
        }

        /** What each SHORT SENTENCE forbids; asked for only when the whole text was read. */
        List<Set<Integer>> shortSets() {
            if (shortSets == null) {
                shortSets = new ArrayList<>();
                for (List<Integer> sentence : shorts()) {
                    shortSets.add(forbidden(closed(sentence)));
                }
            }
            return shortSets;
        }

        /** SHORT SENTENCES as rows without their stop. */
        List<List<Integer>> shorts() {
            List<List<Integer>> literals = new ArrayList<>();
            for (int sign = 0; sign < 12; sign++) {
                if (word(sign) != null) {
                    literals.add(List.of(sign));
                    literals.add(List.of(20, sign));
                }
            }
            List<List<Integer>> all = new ArrayList<>(literals);
            for (List<Integer> first : literals) {
                for (List<Integer> second : literals) {
                    for (int joint : new int[] {18, 19, 21}) {
                        List<Integer> sentence = new ArrayList<>(first);
                        sentence.add(joint);
                        sentence.addAll(second);
                        all.add(sentence);
                    }
                }
            }
            return all;
        }
    }

    static List<Integer> closed(List<Integer> sentence) {
        List<Integer> row = new ArrayList<>(sentence);
        row.add(22);
        return row;
    }

    static int wordCount(List<Integer> row) {
        return (int) row.stream().filter(sign -> sign != 22).count();
    }

    static List<List<Integer>> sentencesOf(List<Integer> row) {
        List<List<Integer>> sentences = new ArrayList<>();
        int first = 0;
        for (int place = 0; place < row.size(); place++) {
            if (row.get(place) == 22) {
                sentences.add(row.subList(first, place));
                first = place + 1;
            }
        }
        return sentences;
    }

    private final StringBuilder tape = new StringBuilder();
    private Speech speech = new Speech();
    private List<Integer> law = List.of();
    private List<Integer> other = List.of();
    private final Deque<List<Integer>> acts = new ArrayDeque<>();
    private final int[] refused = new int[6];
    private List<Integer> picture = List.of();
    private long lot = 1;
    private int fault;
    private int place = -1;
    private List<Token> tokens;
    private int next;
    private int open;

    // ---- texts

    int feed(int[] numbers) {
        if (tape.length() + 20 > 1600) {
            return refuse(0);
        }
        for (int number : numbers) {
            for (int shift = 24; shift >= 0; shift -= 8) {
                tape.append((char) (number >> shift & 255));
            }
        }
        return tape.length();
    }

    boolean end(int n) {
        if (n < 0 || n > tape.length()) {
            return refuse(0) == 0;
        }
        tape.setLength(n);
        return true;
    }

    private int refuse(int what) {
        refused[what]++;
        return -1;
    }

    private void cutTokens() {
        tokens = new ArrayList<>();
        next = 0;
        int at = 0;
        while (at < tape.length()) {
            char c = tape.charAt(at);
            char kind = kindOf(c);
            int behind = at + 1;
            while ((kind == 'w' || kind == 'n') && behind < tape.length() && kindOf(tape.charAt(behind)) == kind) {
                behind++;
            }
            if (c != 10 && c != 32) {
                boolean glued = kind != 'p' && at > 0 && "wn".indexOf(kindOf(tape.charAt(at - 1))) >= 0;
                tokens.add(new Token(kind, tape.substring(at, behind), at, glued));
            }
            at = behind;
        }
        tokens.add(new Token('e', "", tape.length(), false));
    }

    private static char kindOf(char c) {
        return c >= 'a' && c <= 'z' ? 'w' : c >= '0' && c <= '9' ? 'n' : 'p';
    }

    private Token peek() {
        return tokens.get(next);
    }

    private boolean isNext(String text) {
        return peek().text().equals(text) && !peek().glued();
    }

    private Fault wrong() {
        return new Fault(1, peek().start());
    }

    private void expect(String text) {
        if (!isNext(text)) {
            throw wrong();
        }
        next++;
    }

    private String expectWord() {
        Token token = peek();
        if (token.kind() != 'w' || token.glued() || OWN.contains(token.text())) {
            throw wrong();
        }
        if (token.text().length() > 6) {
            throw new Fault(1, token.start() + 6);
        }
        next++;
        return token.text();
    }

    private int expectNumber(int least, int most) {
        Token token = peek();
        if (token.kind() != 'n' || token.glued()) {
            throw wrong();
        }
        if (token.text().length() > 4) {
            throw new Fault(1, token.start() + 4);
        }
        int value = Integer.parseInt(token.text());
        if (value < least || value > most) {
            throw new Fault(2, token.start());
        }
        next++;
        return value;
    }

    private static void check(boolean fine, int kind, Token token) {
        if (!fine) {
            throw new Fault(kind, token.start());
        }
    }

    /** Runs a reading of the tape; the tape goes. */
    private boolean reads(Runnable reading) {
        fault = 0;
        place = -1;
        cutTokens();
        tape.setLength(0);
        try {
            reading.run();
        } catch (Fault found) {
            fault = found.kind;
            place = found.place;
        }
        return fault == 0;
    }

    int tongue() {
        Speech fresh = new Speech();
        int[] count = new int[1];
        if (!reads(() -> count[0] = readSpeech(fresh))) {
            return refuse(1);
        }
        speech = fresh;
        law = List.of();
        other = List.of();
        acts.clear();
        return count[0];
    }

    private int readSpeech(Speech fresh) {
        int count = 0;
        while (peek().kind() != 'e') {
            check(count < 70, 5, peek());
            readStatement(fresh);
            expect(";");
            count++;
        }
        return count;
    }

    private void readStatement(Speech fresh) {
        Token first = peek();
        String kind = first.text();
        int sort = List.of("who", "what", "when").indexOf(kind);
        if (sort >= 0) {
            check(fresh.sorts.get(sort).size() < 4, 5, first);
            next++;
            fresh.sorts.get(sort).add(newWord(fresh));
            return;
        }
        switch (kind) {
            case "like" -> {
                check(fresh.likes.size() < 6, 5, first);
                next++;
                String word = newWord(fresh);
                Token second = peek();
                String meant = expectWord();
                check(fresh.signOf(meant) >= 0, 3, second);
                fresh.likes.put(word, fresh.likes.getOrDefault(meant, meant));
            }
            case "limit" -> {
                next++;
                fresh.limit = expectNumber(1, 40);
            }
            case "party" -> {
                check(fresh.parties.size() < 5, 5, first);
                next++;
                String word = newWord(fresh);
                expect("votes");
                fresh.parties.put(word, expectNumber(1, 9));
            }
            case "wish" -> {
                check(fresh.wishes.size() < 16, 5, first);
                next++;
                Token token = peek();
                String party = expectWord();
                check(fresh.parties.containsKey(party), 3, token);
                Told told = readTold(fresh, party);
                expect("worth");
                fresh.wishes.add(new Told(party, told.forbid(), told.ones(), expectNumber(1, 99)));
            }
            case "peace" -> {
                check(fresh.peace.size() < 8, 5, first);
                next++;
                fresh.peace.add(readTold(fresh, ""));
            }
            case "judged" -> {
                check(fresh.judgments.size() < 10, 5, first);
                next++;
                fresh.judgments.add(readTold(fresh, ""));
            }
            default -> throw wrong();
        }
    }

    private String newWord(Speech fresh) {
        Token token = peek();
        String word = expectWord();
        check(!fresh.isGiven(word), 3, token);
        return word;
    }

    private Told readTold(Speech fresh, String party) {
        boolean forbid = isNext("forbid");
        if (!forbid && !isNext("free")) {
            throw wrong();
        }
        next++;
        List<String> ones = new ArrayList<>();
        for (int sort = 0; sort < 3; sort++) {
            Token token = peek();
            if (isNext("any")) {
                next++;
            } else {
                check(fresh.sorts.get(sort).contains(expectWord()), 3, token);
            }
            ones.add(token.text());
        }
        return new Told(party, forbid, ones, 0);
    }

    int law(boolean second) {
        List<Integer> row = new ArrayList<>();
        if (!reads(() -> readLaw(row))) {
            return refuse(1);
        }
        if (second) {
            other = row;
        } else if (!speech.keepsPeace(speech.forbidden(row))) {
            refuse(1);
            return -2;
        } else {
            enact(row);
        }
        return wordCount(row);
    }

    private void readLaw(List<Integer> row) {
        while (peek().kind() != 'e') {
            readTerms(row);
            if (peek().text().equals("unless")) {
                readOwn(row, "unless", 21);
                readTerms(row);
            }
            readOwn(row, ".", 22);
        }
    }

    private void readTerms(List<Integer> row) {
        readTerm(row);
        while (peek().text().equals("and") || peek().text().equals("or")) {
            readOwn(row, peek().text(), peek().text().equals("and") ? 18 : 19);
            readTerm(row);
        }
    }

    private void readTerm(List<Integer> row) {
        while (peek().text().equals("not")) {
            readOwn(row, "not", 20);
        }
        checkRoom(row);
        Token token = peek();
        int sign = speech.signOf(expectWord());
        check(sign >= 0, 3, token);
        row.add(sign);
    }

    private void readOwn(List<Integer> row, String text, int sign) {
        checkRoom(row);
        expect(text);
        row.add(sign);
    }

    private void checkRoom(List<Integer> row) {
        Token token = peek();
        if (token.kind() == 'w' && !token.glued()) {
            check(wordCount(row) < speech.limit && row.size() < 60, 5, token);
        }
        check(!token.text().equals(".") || row.size() < 60, 5, token);
    }

    int fault(int what) {
        return what == 0 ? fault : what == 1 ? place : -1;
    }

    int has(int what) {
        return switch (what) {
            case 0, 1, 2 -> speech.sorts.get(what).size();
            case 3 -> speech.likes.size();
            case 4 -> speech.limit;
            case 5 -> speech.parties.size();
            case 6 -> speech.wishes.size();
            case 7 -> speech.peace.size();
            case 8 -> speech.judgments.size();
            case 9 -> speech.cases();
            case 10 -> acts.size();
            default -> -1;
        };
    }

    int letter(int sign, int k) {
        List<String> parties = new ArrayList<>(speech.parties.keySet());
        String word = sign >= 0 && sign < 18 ? speech.word(sign)
            : sign >= 20 && sign - 20 < parties.size() ? parties.get(sign - 20) : null;
        if (word == null || k < 0 || k > 5) {
            return -1;
        }
        return k < word.length() ? word.charAt(k) - 'a' + 1 : 0;
    }

    // ---- the laws

    private List<Integer> row(boolean second) {
        return second ? other : law;
    }

    private Set<Integer> forbidden(boolean second) {
        return speech.forbidden(row(second));
    }

    int sign(boolean second, int k) {
        List<Integer> row = row(second);
        return k == -1 ? row.size() : k >= 0 && k < row.size() ? row.get(k) : -1;
    }

    int size(boolean second, int what) {
        List<Integer> row = row(second);
        return switch (what) {
            case 0 -> wordCount(row);
            case 1 -> sentencesOf(row).size();
            case 2 -> forbidden(second).size();
            case 3 -> idle(row);
            case 4 -> second ? -1 : speech.keepsPeace(forbidden(false)) ? 1 : 0;
            default -> -1;
        };
    }

    private int idle(List<Integer> row) {
        int count = 0;
        for (int k = 0; k < sentencesOf(row).size(); k++) {
            List<Integer> without = new ArrayList<>();
            for (int j = 0; j < sentencesOf(row).size(); j++) {
                if (j != k) {
                    without.addAll(sentencesOf(row).get(j));
                    without.add(22);
                }
            }
            count += speech.forbidden(without).equals(speech.forbidden(row)) ? 1 : 0;
        }
        return count;
    }

    private boolean isCase(int number) {
        return number >= 0 && number < speech.cases();
    }

    int forbids(boolean second, int number) {
        return !isCase(number) ? -1 : forbidden(second).contains(number) ? 1 : 0;
    }

    private static int nth(List<Integer> list, int k) {
        return k >= 0 && k < list.size() ? list.get(k) : -1;
    }

    int borne(int number, int k) {
        List<Integer> bearing = new ArrayList<>();
        for (int sentence = 0; isCase(number) && sentence < sentencesOf(law).size(); sentence++) {
            if (speech.sentenceForbids(sentencesOf(law).get(sentence), number)) {
                bearing.add(sentence);
            }
        }
        return nth(bearing, k);
    }

    private static List<Integer> without(List<Integer> row, int place) {
        List<Integer> fresh = new ArrayList<>(row);
        fresh.remove(place);
        return fresh;
    }

    int led(int number, int k) {
        List<Integer> places = new ArrayList<>();
        for (int spot = 0; forbids(false, number) == 1 && spot < law.size(); spot++) {
            List<Integer> fresh = without(law, spot);
            if (speech.isLawful(fresh) && !speech.forbidden(fresh).contains(number)) {
                places.add(spot);
            }
        }
        return nth(places, k);
    }

    int price(int spot) {
        if (spot < 0 || spot >= law.size() || !speech.isLawful(without(law, spot))) {
            return -1;
        }
        int count = 0;
        Set<Integer> fresh = speech.forbidden(without(law, spot));
        for (int number = 0; number < speech.cases(); number++) {
            count += fresh.contains(number) != forbidden(false).contains(number) ? 1 : 0;
        }
        return count;
    }

    // ---- changes

    /** The row behind one edit (kind 0 put, 1 struck, 2 another sign); null when that is no CHANGE. */
    private List<Integer> changed(List<Integer> row, int kind, int spot, int sign) {
        if (spot < 0 || spot > row.size() || kind != 0 && spot == row.size() || sign < 0 || sign > 22) {
            return null;
        }
        List<Integer> fresh = new ArrayList<>(row);
        if (kind == 0) {
            fresh.add(spot, sign);
        } else if (kind == 1) {
            fresh.remove(spot);
        } else if (fresh.set(spot, sign) == sign) {
            return null;
        }
        return speech.isLawful(fresh) && speech.keepsPeace(speech.forbidden(fresh)) ? fresh : null;
    }

    private void enact(List<Integer> row) {
        acts.addLast(law);
        if (acts.size() > 20) {
            acts.removeFirst();
        }
        law = row;
    }

    int edit(int kind, int spot, int sign) {
        List<Integer> fresh = changed(law, kind, spot, sign);
        if (fresh == null) {
            return refuse(2);
        }
        enact(fresh);
        return wordCount(fresh);
    }

    boolean undo() {
        if (acts.isEmpty()) {
            return refuse(3) == 0;
        }
        law = acts.removeLast();
        return true;
    }

    /** All CHANGES of a row in a SPRING's order; those of one kind alone, unless kind is -1. */
    private List<List<Integer>> allChanges(List<Integer> row, int wanted) {
        List<List<Integer>> all = new ArrayList<>();
        for (int spot = 0; spot <= row.size(); spot++) {
            for (int kind : new int[] {1, 2, 0}) {
                for (int sign = 0; sign < (kind == 1 ? 1 : 23); sign++) {
                    List<Integer> fresh = wanted == -1 || wanted == kind ? changed(row, kind, spot, sign) : null;
                    if (fresh != null) {
                        all.add(fresh);
                    }
                }
            }
        }
        return all;
    }

    int changes(int what) {
        return what < 0 || what > 2 ? -1 : allChanges(law, what).size();
    }

    // ---- fewest words, ways, holes

    int fewest(boolean second, int what) {
        Fewest best = fewestFor(forbidden(second));
        if (best == null) {
            return -1;
        }
        return switch (what) {
            case 0 -> best.words();
            case 1 -> best.sentences();
            case 2 -> best.first();
            case 3 -> best.second();
            default -> -1;
        };
    }

    private Fewest fewestFor(Set<Integer> goal) {
        if (goal.isEmpty()) {
            return new Fewest(0, 0, -1, -1);
        }
        List<List<Integer>> shorts = speech.shorts();
        long wanted = bits(goal);
        long[] sets = new long[shorts.size()];
        for (int k = 0; k < sets.length; k++) {
            sets[k] = bits(speech.shortSets().get(k));
        }
        Fewest best = null;
        for (int k = 0; k < sets.length; k++) {
            if (sets[k] == wanted && (best == null || shorts.get(k).size() < best.words())) {
                best = new Fewest(shorts.get(k).size(), 1, k, -1);
            }
        }
        for (int first = 0; first < sets.length; first++) {
            for (int second = first; second < sets.length; second++) {
                int words = shorts.get(first).size() + shorts.get(second).size();
                if ((sets[first] | sets[second]) == wanted && (best == null || words < best.words())) {
                    best = new Fewest(words, 2, first, second);
                }
            }
        }
        return best;
    }

    private static long bits(Set<Integer> set) {
        long bits = 0;
        for (int number : set) {
            bits |= 1L << number;
        }
        return bits;
    }

    int shorts() {
        return speech.shorts().size();
    }

    int brief(int sentence, int what) {
        List<List<Integer>> shorts = speech.shorts();
        if (sentence < 0 || sentence >= shorts.size()) {
            return -1;
        }
        return switch (what) {
            case 0 -> shorts.get(sentence).size();
            case 1 -> speech.shortSets().get(sentence).size();
            case 2 -> speech.fits(speech.shortSets().get(sentence)) ? 1 : 0;
            default -> -1;
        };
    }

    int way() {
        if (law.equals(other)) {
            return 0;
        }
        if (law.size() > 20 || other.size() > 20) {
            return -1;
        }
        if (!speech.keepsPeace(forbidden(true))) {
            return -1;
        }
        if (allChanges(law, -1).contains(other)) {
            return 1;
        }
        // An edit can be turned about: what is one CHANGE from the other law leads to it by one.
        Set<List<Integer>> near = new HashSet<>(allChanges(other, -1));
        Set<List<Integer>> reached = Set.of(law);
        for (int steps = 2; steps <= 3; steps++) {
            Set<List<Integer>> further = new HashSet<>();
            for (List<Integer> row : reached) {
                further.addAll(allChanges(row, -1));
            }
            if (further.stream().anyMatch(near::contains)) {
                return steps;
            }
            reached = further;
        }
        return -1;
    }

    int hole(boolean forward, int k) {
        List<Integer> holes = new ArrayList<>();
        for (int number = 0; number < speech.cases(); number++) {
            if (forbidden(forward).contains(number) && !forbidden(!forward).contains(number)) {
                holes.add(number);
            }
        }
        return nth(holes, k);
    }

    int parts() {
        for (int number = 0; number < speech.cases(); number++) {
            if (forbids(false, number) != forbids(true, number)) {
                return number;
            }
        }
        return -1;
    }

    // ---- parties

    int worth(boolean second, int party) {
        List<String> names = new ArrayList<>(speech.parties.keySet());
        return party < 0 || party >= names.size() ? -1 : speech.worth(names.get(party), forbidden(second));
    }

    int votes(boolean yes) {
        return speech.votes(forbidden(false), forbidden(true), yes);
    }

    private List<Integer> sprung() {
        Set<Integer> old = forbidden(false);
        for (List<Integer> fresh : allChanges(law, -1)) {
            Set<Integer> set = speech.forbidden(fresh);
            if (speech.votes(old, set, true) > speech.votes(old, set, false)) {
                return fresh;
            }
        }
        return null;
    }

    int rest() {
        return sprung() == null ? 1 : 0;
    }

    int spring(int n) {
        if (n < 1 || n > 20) {
            return refuse(2);
        }
        int count = 0;
        for (List<Integer> fresh = sprung(); fresh != null && count < n; count++) {
            enact(fresh);
            fresh = sprung();
        }
        return count;
    }

    // ---- judgments, lots

    int fitting(int what) {
        List<Set<Integer>> fitting = new ArrayList<>();
        for (Set<Integer> set : speech.shortSets()) {
            if (speech.fits(set)) {
                fitting.add(set);
            }
        }
        int all = 0;
        int some = 0;
        for (int number = 0; number < speech.cases(); number++) {
            int one = number;
            all += !fitting.isEmpty() && fitting.stream().allMatch(set -> set.contains(one)) ? 1 : 0;
            some += fitting.stream().anyMatch(set -> set.contains(one)) ? 1 : 0;
        }
        return what == 0 ? fitting.size() : what == 1 ? all : what == 2 ? some : -1;
    }

    int judged() {
        for (int k = 0; k < speech.judgments.size(); k++) {
            if (!speech.isKept(speech.judgments.get(k), forbidden(false))) {
                return k;
            }
        }
        return -1;
    }

    boolean seed(int seed) {
        if (seed < 0) {
            return refuse(4) == 0;
        }
        lot = seed;
        return true;
    }

    int stroke() {
        if (law.isEmpty()) {
            return -1;
        }
        lot = (1103515245L * lot + 12345) % (1L << 31);
        int spot = (int) (lot / 64 % law.size());
        List<Integer> fresh = changed(law, 1, spot, 0);
        if (fresh == null) {
            return -1;
        }
        enact(fresh);
        return spot;
    }

    long ask() {
        long[] answer = new long[1];
        return reads(() -> answer[0] = readQuestion()) ? answer[0] : -1000000000000000L;
    }

    private long readQuestion() {
        open = 0;
        int kind = List.of("first", "last", "often", "total", "most", "least").indexOf(peek().text());
        if (kind < 0) {
            throw wrong();
        }
        next++;
        LongUnaryOperator value = kind < 3 ? readTest() : readSum();
        if (peek().kind() != 'e') {
            throw wrong();
        }
        List<Long> values = new ArrayList<>();
        for (int number = 0; number < speech.cases(); number++) {
            values.add(value.applyAsLong(number));
        }
        return switch (kind) {
            case 0 -> values.indexOf(1L);
            case 1 -> values.lastIndexOf(1L);
            case 2, 3 -> values.stream().mapToLong(Long::longValue).sum();
            case 4 -> values.stream().mapToLong(Long::longValue).max().orElse(0);
            default -> values.stream().mapToLong(Long::longValue).min().orElse(0);
        };
    }

    private LongUnaryOperator readTest() {
        LongUnaryOperator left = readBoth();
        while (isNext("or")) {
            next++;
            LongUnaryOperator first = left;
            LongUnaryOperator right = readBoth();
            left = c -> Math.max(first.applyAsLong(c), right.applyAsLong(c));
        }
        return left;
    }

    private LongUnaryOperator readBoth() {
        LongUnaryOperator left = readFact();
        while (isNext("and")) {
            next++;
            LongUnaryOperator first = left;
            LongUnaryOperator right = readFact();
            left = c -> Math.min(first.applyAsLong(c), right.applyAsLong(c));
        }
        return left;
    }

    private void opens() {
        check(open < 6, 4, peek());
        open++;
        next++;
    }

    private LongUnaryOperator readFact() {
        if (isNext("not")) {
            opens();
            LongUnaryOperator fact = readFact();
            open--;
            return c -> fact.applyAsLong(c) == 1 ? 0 : 1;
        }
        if (isNext("[")) {
            opens();
            LongUnaryOperator test = readTest();
            expect("]");
            open--;
            return test;
        }
        if (isNext("all")) {
            next++;
            return c -> 1;
        }
        LongUnaryOperator left = readSum();
        String sign = peek().text();
        if (!List.of("<", ">", "=").contains(sign)) {
            throw wrong();
        }
        next++;
        LongUnaryOperator right = readSum();
        int wanted = "<=>".indexOf(sign) - 1;
        return c -> Long.compare(left.applyAsLong(c), right.applyAsLong(c)) == wanted ? 1 : 0;
    }

    private static long held(long value) {
        return value > 1000000 ? 1000000 : value < -1000000 ? -1000000 : value;
    }

    private LongUnaryOperator readSum() {
        LongUnaryOperator left = readProduct();
        while (isNext("+") || isNext("-")) {
            int sign = isNext("+") ? 1 : -1;
            next++;
            LongUnaryOperator first = left;
            LongUnaryOperator right = readProduct();
            left = c -> held(first.applyAsLong(c) + sign * right.applyAsLong(c));
        }
        return left;
    }

    private LongUnaryOperator readProduct() {
        LongUnaryOperator left = readPart();
        while (isNext("*") || isNext("/")) {
            boolean times = isNext("*");
            next++;
            LongUnaryOperator first = left;
            LongUnaryOperator right = readPart();
            left = c -> times ? held(first.applyAsLong(c) * right.applyAsLong(c))
                : quotient(first.applyAsLong(c), right.applyAsLong(c));
        }
        return left;
    }

    private static long quotient(long left, long right) {
        return right == 0 ? 0 : (long) Math.floor((double) left / right);
    }

    private LongUnaryOperator readPart() {
        Token token = peek();
        if (token.kind() == 'n') {
            int value = expectNumber(0, 9999);
            return c -> value;
        }
        if (isNext("(")) {
            opens();
            LongUnaryOperator sum = readSum();
            expect(")");
            open--;
            return sum;
        }
        if (isNext("borne")) {
            opens();
            LongUnaryOperator part = readPart();
            open--;
            return c -> isBorneBy(part.applyAsLong(c), (int) c) ? 1 : 0;
        }
        if (isNext("min") || isNext("max")) {
            boolean least = isNext("min");
            next++;
            if (!isNext("(")) {
                throw wrong();
            }
            opens();
            LongUnaryOperator first = readSum();
            expect(",");
            LongUnaryOperator second = readSum();
            expect(")");
            open--;
            return c -> least ? Math.min(first.applyAsLong(c), second.applyAsLong(c))
                : Math.max(first.applyAsLong(c), second.applyAsLong(c));
        }
        return readFactOfCase();
    }

    private LongUnaryOperator readFactOfCase() {
        if (peek().glued()) {
            throw wrong();
        }
        int sort = List.of("who", "what", "when").indexOf(peek().text());
        LongUnaryOperator part = switch (peek().text()) {
            case "case" -> c -> c;
            case "law" -> c -> forbids(false, (int) c);
            case "other" -> c -> forbids(true, (int) c);
            case "who", "what", "when" -> c -> speech.sorts.get(sort).indexOf(speech.wordsOf((int) c).get(sort));
            default -> throw wrong();
        };
        next++;
        return part;
    }

    private boolean isBorneBy(long sentence, int number) {
        List<List<Integer>> sentences = sentencesOf(law);
        return sentence >= 0 && sentence < sentences.size()
            && speech.sentenceForbids(sentences.get((int) sentence), number);
    }

    // ---- images, refusals

    int image() {
        picture = imageOf(law, other);
        return picture.size();
    }

    private static List<Integer> imageOf(List<Integer> first, List<Integer> second) {
        List<Integer> bytes = new ArrayList<>();
        bytes.add(first.size());
        bytes.addAll(first);
        bytes.add(second.size());
        bytes.addAll(second);
        int seal = 101;
        for (int octet : bytes) {
            seal = (5 * seal + octet) % 239;
        }
        bytes.add(seal);
        return bytes;
    }

    int octet(int k) {
        return nth(picture, k);
    }

    boolean restore() {
        List<Integer> bytes = new ArrayList<>();
        for (int k = 0; k < tape.length(); k++) {
            bytes.add((int) tape.charAt(k));
        }
        tape.setLength(0);
        int second = bytes.isEmpty() ? -1 : bytes.get(0) + 1;
        if (second < 0 || second >= bytes.size() || second + 1 + bytes.get(second) >= bytes.size()) {
            return refuse(5) == 0;
        }
        List<Integer> one = bytes.subList(1, second);
        List<Integer> two = bytes.subList(second + 1, second + 1 + bytes.get(second));
        if (!imageOf(one, two).equals(bytes) || !speech.isLawful(one) || !speech.isLawful(two)) {
            return refuse(5) == 0;
        }
        law = one;
        other = two;
        acts.clear();
        return true;
    }

    int status(int what) {
        return what >= 0 && what < 6 ? refused[what] : -1;
    }
}
