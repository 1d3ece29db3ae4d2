/** The boundary cases of promises 1, 5 to 7, 11 and 15 to 18: the calls about terms themselves. */
public final class BoundaryCallsTest {
    private static final int NONE = TypoSuggester.NONE;
    private static final int FULL = TypoSuggester.FULL;
    private static final long GREATEST = 1000000000000L;
    private static final String LONGEST = "abcdefghijklmnopqrstuvwx";
    /** None of them is a term, though the letters in them make some: c, cab, ca and the longest. */
    private static final String[] NO_TERMS = {"", "Cab", "cAb", "caB", "CAB", " cab", "cab ", "c ab", "cab\0",
        "ca`", "ca{", "ca\u00e2", "\u00e3ab", LONGEST + "y", LONGEST + " ", LONGEST.repeat(16)};
    private static final Checks CHECKS = new Checks("BoundaryCallsTest");

    public static void main(String[] args) {
        noTerms();
        setWhoseWeightIsSoMuchThen();
        setNewOrThere();
        setFullNoRoom();
        setNoneItIsNoTerm();
        setNoneNoWeight();
        setNoneComesFirst();
        dropWhichGoesItsWeight();
        dropNoneItIsNotThere();
        weightNoneItIsNotThere();
        rankGreaterWeightOrTheSameAndBefore();
        rankNoneItIsNotThere();
        howManyTermsThereAre();
        howManyLettersTheyHaveTogether();
        termInTheirOrder();
        termNoneSuch();
        prefixesNoneAndWholeOnesToo();
        prefixesDifferent();
        prefixes0WithoutTerms();
        CHECKS.end();
    }

    private static int set(TypoSuggester x, String term, long weight) {
        return Checks.type(x, term).set(weight);
    }

    private static long drop(TypoSuggester x, String term) {
        return Checks.type(x, term).drop();
    }

    private static long weightOf(TypoSuggester x, String term) {
        return Checks.type(x, term).weight();
    }

    private static int rankOf(TypoSuggester x, String term) {
        return Checks.type(x, term).rank();
    }

    private static TypoSuggester some() {
        return Checks.withTerms("cab", 7, "c", 5, LONGEST, 3, "ca", 0);
    }

    private static void noTerms() {
        CHECKS.sentence("Promise 1", "No terms.");
        TypoSuggester x = new TypoSuggester();
        CHECKS.due("terms", x.terms(), 0);
        CHECKS.due("letters", x.letters(), 0);
        CHECKS.due("prefixes", x.prefixes(), 0);
        CHECKS.due("found", x.found(), 0);
        CHECKS.due("term(0, 0)", x.term(0, 0), NONE);
        CHECKS.due("letter(0, 0)", x.letter(0, 0), NONE);
        CHECKS.due("of(0, 0)", x.of(0, 0), NONE);
        CHECKS.due("best", x.best(), NONE);
        CHECKS.due("near(2)", x.near(2), 0);
        CHECKS.due("ask(50, 2)", x.ask(50, 2), 0);
        CHECKS.due("weight", weightOf(x, "a"), NONE);
        CHECKS.due("rank", rankOf(x, "a"), NONE);
        CHECKS.due("drop", drop(x, "a"), NONE);
    }

    private static void setWhoseWeightIsSoMuchThen() {
        CHECKS.sentence("Promise 5", "Takes the tape as a term, whose weight is so much then");
        TypoSuggester x = some();
        long[] weights = {0, GREATEST, 1, 0, (1L << 32) + 1};
        for (long weight : weights) {
            CHECKS.due("set(" + weight + ")", set(x, "cab", weight), 0);
            CHECKS.due("weight", weightOf(x, "cab"), weight);
        }
        CHECKS.due("weight of the one before", weightOf(x, "ca"), 0);
        CHECKS.due("weight of the longest", weightOf(x, LONGEST), 3);
    }

    private static void setNewOrThere() {
        CHECKS.sentence("Promise 5", "1: it is new; 0: it was there");
        TypoSuggester x = new TypoSuggester();
        String[] terms = {"b", "a", "c", "bb", "ba", "z", LONGEST};
        for (String term : terms) {
            CHECKS.due("set of " + term, set(x, term, 0), 1);
            CHECKS.due("again", set(x, term, 0), 0);
        }
        CHECKS.due("drop", drop(x, "b"), 0);
        CHECKS.due("set of one that went", set(x, "b", 0), 1);
        Checks.type(x, "elk").learn(0);
        CHECKS.due("set of one that was learnt", set(x, "elk", 0), 0);
        CHECKS.due("terms", x.terms(), 8);
    }

    private static void setFullNoRoom() {
        CHECKS.sentence("Promise 5", "FULL: no room");
        TypoSuggester x = Checks.withAllTerms();
        CHECKS.due("set of a new first one", set(x, "aaa", 9), FULL);
        CHECKS.due("set of a new last one", set(x, "zz", 9), FULL);
        CHECKS.due("set of the longest", set(x, LONGEST, 0), FULL);
        CHECKS.due("terms", x.terms(), 600);
        CHECKS.due("weight of the first", weightOf(x, "aaa"), NONE);
        CHECKS.due("set of one that is there", set(x, "a", 9), 0);
        CHECKS.due("drop", drop(x, "m"), 1);
        CHECKS.due("set with room for one", set(x, "aaa", 9), 1);
        CHECKS.due("set of one more", set(x, "m", 9), FULL);
    }

    private static void setNoneItIsNoTerm() {
        CHECKS.sentence("Promise 5", "it is no term (small letters alone)");
        for (String tape : NO_TERMS) {
            TypoSuggester x = some();
            CHECKS.due("set of '" + tape + "'", set(x, tape, 1), NONE);
            CHECKS.due("terms", x.terms(), 4);
            CHECKS.due("weight of cab", weightOf(x, "cab"), 7);
            CHECKS.due("weight of the longest", weightOf(x, LONGEST), 3);
        }
    }

    private static void setNoneNoWeight() {
        CHECKS.sentence("Promise 5", "or no weight");
        long[] weights = {-1, GREATEST + 1, Long.MIN_VALUE, Long.MAX_VALUE, -GREATEST};
        for (long weight : weights) {
            TypoSuggester x = some();
            CHECKS.due("set(" + weight + ") of a new one", set(x, "dog", weight), NONE);
            CHECKS.due("set(" + weight + ") of one that is there", set(x, "cab", weight), NONE);
            CHECKS.due("terms", x.terms(), 4);
            CHECKS.due("weight of cab", weightOf(x, "cab"), 7);
        }
        CHECKS.due("set(0)", set(some(), "dog", 0), 1);
        CHECKS.due("set(greatest)", set(some(), "dog", GREATEST), 1);
    }

    private static void setNoneComesFirst() {
        CHECKS.sentence("Promise 5", "NONE (which comes first)");
        TypoSuggester x = Checks.withAllTerms();
        CHECKS.due("a new term, no weight, no room", set(x, "zzz", -1), NONE);
        CHECKS.due("a new term, too great a weight, no room", set(x, "zzz", GREATEST + 1), NONE);
        CHECKS.due("no term, no room", set(x, "Zz", 1), NONE);
        CHECKS.due("no letters, no room", x.set(1), NONE);
        CHECKS.due("too many letters, no room", set(x, "z".repeat(25), 1), NONE);
        CHECKS.due("no term, no weight, no room", set(x, "Zz", -1), NONE);
        CHECKS.due("a term that is there, no weight", set(x, "a", -1), NONE);
        CHECKS.due("a new term, a weight, no room", set(x, "zzz", 1), FULL);
    }

    private static void dropWhichGoesItsWeight() {
        CHECKS.sentence("Promise 6", "which goes: its weight");
        TypoSuggester x = Checks.withTerms("a", 0, "ab", GREATEST, "b", 1, "bc", (1L << 32) + 5, LONGEST, 6);
        CHECKS.due("the first", drop(x, "a"), 0);
        CHECKS.due("the last", drop(x, "bc"), (1L << 32) + 5);
        CHECKS.due("the middle", drop(x, LONGEST), 6);
        CHECKS.due("the terms", Checks.allTerms(x), "ab b");
        CHECKS.due("letters", x.letters(), 3);
        CHECKS.due("one of two", drop(x, "b"), 1);
        CHECKS.due("the only one", drop(x, "ab"), GREATEST);
        CHECKS.due("terms", x.terms(), 0);
        CHECKS.due("letters", x.letters(), 0);
    }

    private static void dropNoneItIsNotThere() {
        CHECKS.sentence("Promise 6", "NONE: it is not there");
        TypoSuggester x = new TypoSuggester();
        CHECKS.due("without terms", drop(x, "cab"), NONE);
        x = some();
        String[] absent = {"b", "caa", "cac", "cabs", "cb", "d", "z", LONGEST.substring(0, 23)};
        for (String term : absent) {
            CHECKS.due("drop of " + term, drop(x, term), NONE);
        }
        for (String tape : NO_TERMS) {
            CHECKS.due("drop of '" + tape + "'", drop(x, tape), NONE);
        }
        CHECKS.due("terms", x.terms(), 4);
        CHECKS.due("drop of cab", drop(x, "cab"), 7);
        CHECKS.due("drop of cab again", drop(x, "cab"), NONE);
        CHECKS.due("the terms", Checks.allTerms(x), LONGEST + " c ca");
    }

    private static void weightNoneItIsNotThere() {
        CHECKS.sentence("Promise 7", "NONE: it is not there");
        CHECKS.due("without terms", weightOf(new TypoSuggester(), "cab"), NONE);
        TypoSuggester x = some();
        String[] absent = {"b", "caa", "cac", "cabs", "cb", "d", "z", LONGEST.substring(0, 23)};
        for (String term : absent) {
            CHECKS.due("weight of " + term, weightOf(x, term), NONE);
        }
        for (String tape : NO_TERMS) {
            CHECKS.due("weight of '" + tape + "'", weightOf(x, tape), NONE);
        }
        CHECKS.due("weight 0 is not NONE", weightOf(x, "ca"), 0);
        CHECKS.due("weight of the longest", weightOf(x, LONGEST), 3);
        drop(x, "cab");
        CHECKS.due("weight of one that went", weightOf(x, "cab"), NONE);
    }

    private static void rankGreaterWeightOrTheSameAndBefore() {
        CHECKS.sentence("Promise 11", "how many terms have a greater weight, or the same and go before it");
        TypoSuggester x = Checks.withTerms("only", 0);
        CHECKS.due("the only one", rankOf(x, "only"), 0);
        x = Checks.withTerms("b", 5, "a", 5, "bb", 5, "c", 6, "aa", 4, "d", GREATEST, "e", 0, "f", 0);
        String[] byRank = {"d", "c", "a", "b", "bb", "aa", "e", "f"};
        for (int i = 0; i < byRank.length; i++) {
            CHECKS.due("rank of " + byRank[i], rankOf(x, byRank[i]), i);
        }
        // Weights that are the same in their low 32 bits are not the same.
        x = Checks.withTerms("a", 1, "b", (1L << 32) + 1);
        CHECKS.due("rank of the greater", rankOf(x, "b"), 0);
        CHECKS.due("rank of the lesser", rankOf(x, "a"), 1);
    }

    private static void rankNoneItIsNotThere() {
        CHECKS.sentence("Promise 11", "NONE: it is not there");
        CHECKS.due("without terms", rankOf(new TypoSuggester(), "cab"), NONE);
        TypoSuggester x = some();
        String[] absent = {"b", "caa", "cac", "cabs", "cb", "d", "z", LONGEST.substring(0, 23)};
        for (String term : absent) {
            CHECKS.due("rank of " + term, rankOf(x, term), NONE);
        }
        for (String tape : NO_TERMS) {
            CHECKS.due("rank of '" + tape + "'", rankOf(x, tape), NONE);
        }
        CHECKS.due("rank of the last", rankOf(x, "ca"), 3);
    }

    private static void howManyTermsThereAre() {
        CHECKS.sentence("Promise 15", "How many terms there are.");
        TypoSuggester x = new TypoSuggester();
        CHECKS.due("at first", x.terms(), 0);
        set(x, "a", 0);
        CHECKS.due("one of weight 0", x.terms(), 1);
        set(x, "a", 1);
        set(x, "B", 1);
        CHECKS.due("after one there and no term", x.terms(), 1);
        drop(x, "a");
        drop(x, "a");
        CHECKS.due("after it went", x.terms(), 0);
        CHECKS.due("at the most", Checks.withAllTerms().terms(), 600);
    }

    private static void howManyLettersTheyHaveTogether() {
        CHECKS.sentence("Promise 16", "How many letters they have together.");
        TypoSuggester x = new TypoSuggester();
        CHECKS.due("at first", x.letters(), 0);
        set(x, "a", 0);
        set(x, LONGEST, 0);
        set(x, LONGEST, 1);
        CHECKS.due("the shortest and the longest", x.letters(), 25);
        Checks.type(x, "z".repeat(400)).learn(1);
        CHECKS.due("and a row of more than 24", x.letters(), 49);
        drop(x, "a");
        drop(x, LONGEST);
        CHECKS.due("after two went", x.letters(), 24);
        drop(x, "z".repeat(24));
        CHECKS.due("after all went", x.letters(), 0);
    }

    private static void termInTheirOrder() {
        CHECKS.sentence("Promise 17", "Letter j of the i-th term in their order.");
        TypoSuggester x = Checks.withTerms("z", 0, LONGEST, 0, "m", 9);
        CHECKS.due("the first letter of the first", x.term(0, 0), 'a');
        CHECKS.due("the last letter of the first", x.term(0, 23), 'x');
        CHECKS.due("the only letter", x.term(1, 0), 'm');
        CHECKS.due("of the last", x.term(2, 0), 'z');
        x = Checks.withAllTerms();
        CHECKS.due("of the 600th", x.term(599, 0), 'z');
        CHECKS.due("of the 599th", x.term(598, 0), 'y');
        CHECKS.due("of the 598th", x.term(597, 0), 'x');
        CHECKS.due("of wb", x.term(596, 1), 'b');
    }

    private static void termNoneSuch() {
        CHECKS.sentence("Promise 17", "NONE: none such.");
        TypoSuggester x = Checks.withTerms("cab", 1, "do", 2, LONGEST, 3);
        int[][] wrong = {{-1, 0}, {3, 0}, {600, 0}, {601, 0}, {0, 24}, {0, -1}, {1, 3}, {1, -1}, {2, 2}, {2, -1},
            {2, -3}, {Integer.MIN_VALUE, 0}, {Integer.MAX_VALUE, 0}, {0, Integer.MIN_VALUE},
            {0, Integer.MAX_VALUE}, {2, Integer.MAX_VALUE}, {Integer.MAX_VALUE, Integer.MAX_VALUE}};
        for (int[] w : wrong) {
            CHECKS.due("term(" + w[0] + ", " + w[1] + ")", x.term(w[0], w[1]), NONE);
        }
        drop(x, "do");
        CHECKS.due("of one that went", x.term(2, 0), NONE);
        x = Checks.withAllTerms();
        CHECKS.due("term(600, 0) of 600", x.term(600, 0), NONE);
        CHECKS.due("term(599, 1) of one letter", x.term(599, 1), NONE);
    }

    private static void prefixesNoneAndWholeOnesToo() {
        CHECKS.sentence("Promise 18", "none, and whole ones, too");
        CHECKS.due("of one letter", Checks.withTerms("a", 0).prefixes(), 2);
        CHECKS.due("of 24 letters", Checks.withTerms(LONGEST, 0).prefixes(), 25);
        CHECKS.due("of two that share none", Checks.withTerms("ab", 0, "cd", 0).prefixes(), 5);
        CHECKS.due("of a .. wb", Checks.withAllTerms().prefixes(), 601);
    }

    private static void prefixesDifferent() {
        CHECKS.sentence("Promise 18", "How many different rows of letters terms begin with");
        TypoSuggester x = Checks.withTerms("abc", 0);
        CHECKS.due("abc", x.prefixes(), 4);
        set(x, "ab", 0);
        CHECKS.due("and one that it begins with", x.prefixes(), 4);
        set(x, "abd", 0);
        CHECKS.due("and one that differs in the last", x.prefixes(), 5);
        set(x, "bab", 0);
        CHECKS.due("and one that shares none", x.prefixes(), 8);
        set(x, "aabc", 0);
        CHECKS.due("and one that goes before all", x.prefixes(), 11);
        drop(x, "abc");
        CHECKS.due("without abc", x.prefixes(), 10);
        drop(x, "abd");
        CHECKS.due("without abd", x.prefixes(), 9);
    }

    private static void prefixes0WithoutTerms() {
        CHECKS.sentence("Promise 18", "0 without terms");
        TypoSuggester x = new TypoSuggester();
        CHECKS.due("at first", x.prefixes(), 0);
        set(x, "A", 1);
        CHECKS.due("after a refused set", x.prefixes(), 0);
        set(x, "a", 1);
        drop(x, "a");
        CHECKS.due("after the only one went", x.prefixes(), 0);
    }
}
