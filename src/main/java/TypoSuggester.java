/**
 * Terms with weights; a query gets those of the greatest weights that begin nearly as it.
 *
 * <p>All rows are made with the object and used again, so that no call makes anything.
 */
public final class TypoSuggester {
    public static final int NONE = -1, FULL = -2;

    private static final int MOST_BYTES = 400;
    private static final int MOST_TERMS = 600;
    private static final int MOST_LETTERS = 6000;
    private static final int LONGEST_TERM = 24;
    private static final int MOST_FOUND = 50;
    private static final int MOST_CHANGES = 2;
    private static final int GREATEST_LEARNT = 1000000;
    private static final long GREATEST_WEIGHT = 1000000000000L;

    private static final int LENGTH = 0;
    private static final int WEIGHT = 1;
    private static final int NEARNESS = 2;

    private final Tape tape;
    private final Word word;
    private final Lexicon lexicon;
    private final Measure measure;
    private final Result result;

    public TypoSuggester() {
        tape = new Tape();
        word = new Word();
        lexicon = new Lexicon();
        measure = new Measure();
        result = new Result();
    }

    public int feed(int v) {
        return tape.append(v) ? tape.size : FULL;
    }

    public int cut(int n) {
        if (n < 0 || n > tape.size) {
            return NONE;
        }
        int gone = tape.size - n;
        tape.size = n;
        return gone;
    }

    public int learn(int weight) {
        if (weight < 0 || weight > GREATEST_LEARNT) {
            return NONE;
        }
        int taken = 0;
        word.length = 0;
        for (int i = 0; i < tape.size; i++) {
            int letter = smallLetter(tape.bytes[i]);
            if (letter != NONE) {
                word.append(letter);
            } else {
                taken += takeUse(weight);
            }
        }
        taken += takeUse(weight);
        tape.size = 0;
        return taken;
    }

    public int set(long weight) {
        if (!takeTerm() || weight < 0 || weight > GREATEST_WEIGHT) {
            return NONE;
        }
        int place = lexicon.placeOf(word);
        if (lexicon.standsAt(place, word)) {
            lexicon.weights[place] = weight;
            return 0;
        }
        return lexicon.insert(place, word, weight) ? 1 : FULL;
    }

    public long drop() {
        int place = takePlace();
        if (place == NONE) {
            return NONE;
        }
        long gone = lexicon.weights[place];
        lexicon.remove(place);
        return gone;
    }

    public long weight() {
        int place = takePlace();
        return place == NONE ? NONE : lexicon.weights[place];
    }

    public int ask(int k, int d) {
        if (!takeLetters() || k < 1 || k > MOST_FOUND || d < 0 || d > MOST_CHANGES) {
            return NONE;
        }
        result.count = 0;
        for (int i = 0; i < lexicon.count; i++) {
            int nearness = measure.nearness(word, lexicon, i, d);
            if (nearness <= d) {
                result.offer(i, lexicon.weights[i], nearness, k);
            }
        }
        result.keepLetters(lexicon);
        return result.count;
    }

    public int near(int d) {
        if (!takeLetters() || d < 0 || d > MOST_CHANGES) {
            return NONE;
        }
        int many = 0;
        for (int i = 0; i < lexicon.count; i++) {
            if (measure.nearness(word, lexicon, i, d) <= d) {
                many++;
            }
        }
        return many;
    }

    public long best() {
        if (!takeLetters()) {
            return NONE;
        }
        long greatest = NONE;
        // The terms that begin with the letters stand together, from the letters' own place on.
        for (int i = lexicon.placeOf(word); i < lexicon.count && lexicon.beginsWith(i, word); i++) {
            greatest = Math.max(greatest, lexicon.weights[i]);
        }
        return greatest;
    }

    public int rank() {
        int place = takePlace();
        return place == NONE ? NONE : lexicon.rankOf(place);
    }

    public int found() {
        return result.count;
    }

    public int letter(int i, int j) {
        return result.letterOf(i, j);
    }

    public long of(int i, int what) {
        if (i < 0 || i >= result.count) {
            return NONE;
        }
        switch (what) {
            case LENGTH:
                return result.lengths[i];
            case WEIGHT:
                return result.weights[i];
            case NEARNESS:
                return result.nearnesses[i];
            default:
                return NONE;
        }
    }

    public int terms() {
        return lexicon.count;
    }

    public int letters() {
        return lexicon.size();
    }

    public int term(int i, int j) {
        return lexicon.letterOf(i, j);
    }

    public int prefixes() {
        return lexicon.countPrefixes();
    }

    /** Moves the tape into the word; false if it is not 0 .. 24 small letters. */
    private boolean takeLetters() {
        int size = tape.size;
        tape.size = 0;
        word.length = 0;
        if (size > LONGEST_TERM) {
            return false;
        }
        for (int i = 0; i < size; i++) {
            if (!isSmallLetter(tape.bytes[i])) {
                return false;
            }
            word.append(tape.bytes[i]);
        }
        return true;
    }

    private boolean takeTerm() {
        return takeLetters() && word.length > 0;
    }

    /** The place of the term on the tape; NONE if it is not there. */
    private int takePlace() {
        if (!takeTerm()) {
            return NONE;
        }
        int place = lexicon.placeOf(word);
        return lexicon.standsAt(place, word) ? place : NONE;
    }

    /** Ends the word that a text has come to: 1 if it was a use that was taken in, 0 if not. */
    private int takeUse(int weight) {
        boolean taken = word.length > 0 && lexicon.grow(word, weight);
        word.length = 0;
        return taken ? 1 : 0;
    }

    private static boolean isSmallLetter(int b) {
        return b >= 'a' && b <= 'z';
    }

    private static int smallLetter(int b) {
        if (isSmallLetter(b)) {
            return b;
        }
        return b >= 'A' && b <= 'Z' ? b - 'A' + 'a' : NONE;
    }

    private static final class Tape {
        final byte[] bytes = new byte[MOST_BYTES];
        int size;

        boolean append(int v) {
            if (size > MOST_BYTES - 4) {
                return false;
            }
            for (int shift = 24; shift >= 0; shift -= 8) {
                bytes[size] = (byte) (v >> shift);
                size++;
            }
            return true;
        }
    }

    /** The letters that a call is about: a term, a query, or a use in a text. */
    private static final class Word {
        final byte[] letters = new byte[LONGEST_TERM];
        int length;

        /** Of a longer row of letters only the first ones count, so the rest is let go. */
        void append(int letter) {
            if (length < LONGEST_TERM) {
                letters[length] = (byte) letter;
                length++;
            }
        }
    }

    /**
     * The terms in their order, their letters one behind the other without gaps: those of term i
     * are letters[starts[i]] up to, and without, letters[starts[i + 1]].
     */
    private static final class Lexicon {
        final byte[] letters = new byte[MOST_LETTERS];
        final int[] starts = new int[MOST_TERMS + 1];
        final long[] weights = new long[MOST_TERMS];
        int count;

        int size() {
            return starts[count];
        }

        int lengthOf(int i) {
            return starts[i + 1] - starts[i];
        }

        int letterOf(int i, int j) {
            if (i < 0 || i >= count || j < 0 || j >= lengthOf(i)) {
                return NONE;
            }
            return letters[starts[i] + j];
        }

        /** How many terms go before the word: where it stands, or would stand. */
        int placeOf(Word word) {
            int low = 0;
            int high = count;
            while (low < high) {
                int middle = (low + high) / 2;
                if (goesBefore(middle, word)) {
                    low = middle + 1;
                } else {
                    high = middle;
                }
            }
            return low;
        }

        boolean goesBefore(int i, Word word) {
            int shared = sharedWith(i, word);
            if (shared == word.length) {
                return false;
            }
            return shared == lengthOf(i) || letters[starts[i] + shared] < word.letters[shared];
        }

        boolean beginsWith(int i, Word word) {
            return sharedWith(i, word) == word.length;
        }

        boolean standsAt(int place, Word word) {
            return place < count && lengthOf(place) == word.length && beginsWith(place, word);
        }

        /** How many letters term i and the word have in common before they differ or one ends. */
        int sharedWith(int i, Word word) {
            int most = Math.min(lengthOf(i), word.length);
            int shared = 0;
            while (shared < most && letters[starts[i] + shared] == word.letters[shared]) {
                shared++;
            }
            return shared;
        }

        int sharedWithNext(int i) {
            int most = Math.min(lengthOf(i), lengthOf(i + 1));
            int shared = 0;
            while (shared < most && letters[starts[i] + shared] == letters[starts[i + 1] + shared]) {
                shared++;
            }
            return shared;
        }

        /** One more use of the word's term; false if it is new and there is no room. */
        boolean grow(Word word, int weight) {
            int place = placeOf(word);
            if (standsAt(place, word)) {
                weights[place] = Math.min(weights[place] + weight, GREATEST_WEIGHT);
                return true;
            }
            return insert(place, word, weight);
        }

        /** Puts a new term in its place; false, and nothing changes, if there is no room. */
        boolean insert(int place, Word word, long weight) {
            if (count >= MOST_TERMS || size() + word.length > MOST_LETTERS) {
                return false;
            }
            int start = starts[place];
            System.arraycopy(letters, start, letters, start + word.length, size() - start);
            System.arraycopy(word.letters, 0, letters, start, word.length);
            System.arraycopy(weights, place, weights, place + 1, count - place);
            weights[place] = weight;
            for (int i = count; i >= place; i--) {
                starts[i + 1] = starts[i] + word.length;
            }
            count++;
            return true;
        }

        void remove(int place) {
            int length = lengthOf(place);
            int end = starts[place + 1];
            System.arraycopy(letters, end, letters, starts[place], size() - end);
            System.arraycopy(weights, place + 1, weights, place, count - place - 1);
            for (int i = place + 1; i < count; i++) {
                starts[i] = starts[i + 1] - length;
            }
            count--;
        }

        int rankOf(int place) {
            int before = 0;
            for (int i = 0; i < count; i++) {
                if (weights[i] > weights[place] || (weights[i] == weights[place] && i < place)) {
                    before++;
                }
            }
            return before;
        }

        /**
         * Of the prefixes that a term shares with any term before it, it shares all with the one
         * right before it; so each term brings only those that it does not share with that.
         */
        int countPrefixes() {
            if (count == 0) {
                return 0;
            }
            int many = 1 + size();
            for (int i = 0; i + 1 < count; i++) {
                many -= sharedWithNext(i);
            }
            return many;
        }
    }

    private static final class Measure {
        /** row[i]: the distance of the query's first i letters from the prefix that was come to. */
        final int[] row = new int[LONGEST_TERM + 1];

        /** The nearness of term i to the query; just most + 1 where it is above most. */
        int nearness(Word query, Lexicon lexicon, int i, int most) {
            for (int j = 0; j <= query.length; j++) {
                row[j] = j;
            }
            int least = Math.min(query.length, most + 1);
            int lowest = 0;
            int end = lexicon.starts[i + 1];
            // The lowest of a row never falls from row to row: when it is not below the least
            // distance so far, no longer prefix can be nearer.
            for (int at = lexicon.starts[i]; at < end && lowest < least; at++) {
                lowest = lengthenPrefix(query, lexicon.letters[at]);
                least = Math.min(least, row[query.length]);
            }
            return least;
        }

        /** Goes on to the prefix with one letter more: the lowest distance in its row. */
        int lengthenPrefix(Word query, int letter) {
            int diagonal = row[0];
            row[0]++;
            int lowest = row[0];
            for (int j = 1; j <= query.length; j++) {
                int replaced = query.letters[j - 1] == letter ? diagonal : diagonal + 1;
                diagonal = row[j];
                row[j] = Math.min(replaced, Math.min(row[j - 1], row[j]) + 1);
                lowest = Math.min(lowest, row[j]);
            }
            return lowest;
        }
    }

    /** What the last query found, with copies of all, as the terms may change or go later. */
    private static final class Result {
        final int[] places = new int[MOST_FOUND];
        final long[] weights = new long[MOST_FOUND];
        final int[] nearnesses = new int[MOST_FOUND];
        final int[] lengths = new int[MOST_FOUND];
        final byte[] letters = new byte[MOST_FOUND * LONGEST_TERM];
        int count;

        /** Takes a term in if it is among the first most; terms must be offered in their order. */
        void offer(int place, long weight, int nearness, int most) {
            int at = count;
            while (at > 0 && weights[at - 1] < weight) {
                at--;
            }
            if (at >= most) {
                return;
            }
            count = Math.min(count + 1, most);
            for (int i = count - 1; i > at; i--) {
                places[i] = places[i - 1];
                weights[i] = weights[i - 1];
                nearnesses[i] = nearnesses[i - 1];
            }
            places[at] = place;
            weights[at] = weight;
            nearnesses[at] = nearness;
        }

        void keepLetters(Lexicon lexicon) {
            for (int i = 0; i < count; i++) {
                int place = places[i];
                lengths[i] = lexicon.lengthOf(place);
                System.arraycopy(lexicon.letters, lexicon.starts[place],
                        letters, i * LONGEST_TERM, lengths[i]);
            }
        }

        int letterOf(int i, int j) {
            if (i < 0 || i >= count || j < 0 || j >= lengths[i]) {
                return NONE;
            }
            return letters[i * LONGEST_TERM + j];
        }
    }
}
