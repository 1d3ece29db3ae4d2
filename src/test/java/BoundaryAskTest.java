/** The boundary cases of promises 8 to 10 and 12 to 14: queries and the RESULT. */
public final class BoundaryAskTest {
    private static final int NONE = TypoSuggester.NONE;
    private static final long GREATEST = 1000000000000L;
    private static final String LONGEST = "abcdefghijklmnopqrstuvwx";
    private static final String[] NO_QUERIES = {"Cab", "cAb", "caB", " cab", "cab ", "c b", "cab\0", "\0", " ",
        "ca`", "ca{", "c\u00e1", "@", "[", LONGEST + "y", LONGEST + " ", LONGEST.repeat(16)};
    private static final Checks CHECKS = new Checks("BoundaryAskTest");

    public static void main(String[] args) {
        askAQueryOf0To24Letters();
        askNearItWithinD0To2();
        askThatHaveTheGreatestWeights();
        askOfTheSameWeightThoseFirstInOrder();
        askK1To50AtMost();
        askNoneNotSuchATape();
        askNoneNotSuchAK();
        askNoneNotSuchAD();
        nearHowManyTerms();
        nearNoneNotSuchATape();
        nearNoneNotSuchAD();
        bestOf0To24Letters();
        bestTheGreatestWeight();
        bestNoneThereAreNone();
        bestNoneNotSuchATape();
        found0AtFirst();
        foundItStaysAsItWasFound();
        letterOfTheResult();
        letterNoneSuch();
        ofLettersWeightThenNearness();
        ofNoneSuch();
        CHECKS.end();
    }

    private static int ask(TypoSuggester x, String query, int k, int d) {
        return Checks.type(x, query).ask(k, d);
    }

    private static int near(TypoSuggester x, String query, int d) {
        return Checks.type(x, query).near(d);
    }

    private static long best(TypoSuggester x, String letters) {
        return Checks.type(x, letters).best();
    }

    /** The first many of aa, ab, .. with weights of their own, all of them near an empty query. */
    private static TypoSuggester withMany(int many) {
        TypoSuggester x = new TypoSuggester();
        for (int i = 0; i < many; i++) {
            Checks.type(x, Checks.numbered(26 + i)).set(i * 7 % many);
        }
        return x;
    }

    private static void askAQueryOf0To24Letters() {
        CHECKS.sentence("Promise 8", "Takes the tape as a query (0 .. 24 letters a .. z)");
        TypoSuggester x = Checks.withTerms("a", 1, LONGEST, 2, "zz", 3);
        CHECKS.due("0 letters", x.ask(5, 0), 3);
        CHECKS.due("the RESULT", Checks.allFound(x), "zz:3:0 " + LONGEST + ":2:0 a:1:0");
        CHECKS.due("1 letter", ask(x, "a", 5, 0), 2);
        CHECKS.due("the RESULT", Checks.allFound(x), LONGEST + ":2:0 a:1:0");
        CHECKS.due("the last letter", ask(x, "z", 5, 0), 1);
        CHECKS.due("the RESULT", Checks.allFound(x), "zz:3:0");
        CHECKS.due("23 letters", ask(x, LONGEST.substring(0, 23), 5, 0), 1);
        CHECKS.due("24 letters", ask(x, LONGEST, 5, 0), 1);
        CHECKS.due("24 letters, two changed", ask(x, "zz" + LONGEST.substring(2), 5, 2), 1);
        CHECKS.due("the RESULT", Checks.allFound(x), LONGEST + ":2:2");
        CHECKS.due("25 letters", ask(x, LONGEST + "y", 5, 2), NONE);
    }

    private static void askNearItWithinD0To2() {
        CHECKS.sentence("Promise 8", "near it within d (0 .. 2)");
        TypoSuggester x = Checks.withTerms("stone", 1, "stxne", 2, "sxxne", 3, "xxxne", 4);
        CHECKS.due("within 0", ask(x, "stone", 50, 0), 1);
        CHECKS.due("the RESULT", Checks.allFound(x), "stone:1:0");
        CHECKS.due("within 1", ask(x, "stone", 50, 1), 2);
        CHECKS.due("the RESULT", Checks.allFound(x), "stxne:2:1 stone:1:0");
        CHECKS.due("within 2", ask(x, "stone", 50, 2), 3);
        CHECKS.due("the RESULT", Checks.allFound(x), "sxxne:3:2 stxne:2:1 stone:1:0");
    }

    private static void askThatHaveTheGreatestWeights() {
        CHECKS.sentence("Promise 8", "that have the greatest weights");
        TypoSuggester x = Checks.withTerms("ab", 0, "ac", GREATEST, "ad", 1, "ae", (1L << 32), "af", GREATEST - 1);
        CHECKS.due("all", ask(x, "a", 50, 0), 5);
        CHECKS.due("the RESULT", Checks.allFound(x), "ac:1000000000000:0 af:999999999999:0 ae:4294967296:0 "
            + "ad:1:0 ab:0:0");
        // A greater weight goes before a lesser nearness.
        CHECKS.due("two", ask(x, "ab", 2, 1), 2);
        CHECKS.due("the RESULT", Checks.allFound(x), "ac:1000000000000:1 af:999999999999:1");
    }

    private static void askOfTheSameWeightThoseFirstInOrder() {
        CHECKS.sentence("Promise 8", "of the same weight those first in order");
        TypoSuggester x = Checks.withTerms("ad", 4, "ab", 4, "abc", 4, "aa", 3, "ac", 4, "ae", 5);
        CHECKS.due("all", ask(x, "a", 50, 0), 6);
        CHECKS.due("the RESULT", Checks.allFound(x), "ae:5:0 ab:4:0 abc:4:0 ac:4:0 ad:4:0 aa:3:0");
        CHECKS.due("three", ask(x, "a", 3, 0), 3);
        CHECKS.due("the RESULT", Checks.allFound(x), "ae:5:0 ab:4:0 abc:4:0");
        // The nearest of them is the last in order, and does not go first for that.
        CHECKS.due("two of the same weight", ask(x, "ad", 2, 1), 2);
        CHECKS.due("the RESULT", Checks.allFound(x), "ae:5:1 ab:4:1");
        x = Checks.withAllTerms();
        CHECKS.due("50 of 600 of the same weight", x.ask(50, 0), 50);
        CHECKS.due("the first is a", x.of(0, 0), 1);
        CHECKS.due("the last is bv", x.letter(49, 0) * 256L + x.letter(49, 1), 'b' * 256 + 'v');
    }

    private static void askK1To50AtMost() {
        CHECKS.sentence("Promise 8", "k (1 .. 50) at most, by that: how many");
        int[] manys = {0, 1, 2, 49, 50, 51, 52};
        int[] ks = {1, 2, 49, 50};
        for (int many : manys) {
            for (int k : ks) {
                TypoSuggester x = withMany(many);
                int want = Math.min(many, k);
                CHECKS.due("ask(" + k + ", 0) of " + many, x.ask(k, 0), want);
                CHECKS.due("found", x.found(), want);
                CHECKS.due("the greatest", x.of(0, 1), many == 0 ? NONE : many % 7 == 0 ? many - 7 : many - 1);
                CHECKS.due("behind the last", x.of(want, 1), NONE);
            }
        }
        CHECKS.due("50 of 600", Checks.withAllTerms().ask(50, 2), 50);
    }

    private static TypoSuggester asked() {
        TypoSuggester x = Checks.withTerms("cab", 7, "cat", 8, "dog", 9);
        x.feed('c' << 24 | 'a' << 16 | 'b' << 8);
        x.cut(3);
        x.ask(5, 1);
        return x;
    }

    private static void askStays(String call, TypoSuggester x, int got) {
        CHECKS.due(call, got, NONE);
        CHECKS.due("the RESULT behind " + call, Checks.allFound(x), "cat:8:1 cab:7:0");
    }

    private static void askNoneNotSuchATape() {
        CHECKS.sentence("Promise 8", "NONE, the RESULT staying: not such a tape");
        for (String query : NO_QUERIES) {
            TypoSuggester x = asked();
            askStays("ask of '" + query + "'", x, ask(x, query, 50, 2));
        }
    }

    private static void askNoneNotSuchAK() {
        CHECKS.sentence("Promise 8", "NONE, the RESULT staying: not such a tape, k");
        int[] ks = {0, -1, 51, 256 + 5, Integer.MIN_VALUE, Integer.MAX_VALUE};
        for (int k : ks) {
            TypoSuggester x = asked();
            askStays("ask(" + k + ", 2)", x, ask(x, "do", k, 2));
            askStays("ask(" + k + ", 2) of no letters", x, x.ask(k, 2));
        }
    }

    private static void askNoneNotSuchAD() {
        CHECKS.sentence("Promise 8", "NONE, the RESULT staying: not such a tape, k, d");
        int[] ds = {-1, 3, 256 + 1, Integer.MIN_VALUE, Integer.MAX_VALUE};
        for (int d : ds) {
            TypoSuggester x = asked();
            askStays("ask(5, " + d + ")", x, ask(x, "do", 5, d));
            askStays("ask(0, " + d + ")", x, ask(x, "Do", 0, d));
        }
    }

    private static void nearHowManyTerms() {
        CHECKS.sentence("Promise 9", "how many terms are near it within d (0 .. 2)");
        TypoSuggester x = Checks.withTerms("stone", 1, "stxne", 2, "sxxne", 3, "xxxne", 4, LONGEST, 5);
        CHECKS.due("within 0", near(x, "stone", 0), 1);
        CHECKS.due("within 1", near(x, "stone", 1), 2);
        CHECKS.due("within 2", near(x, "stone", 2), 3);
        CHECKS.due("0 letters within 0", x.near(0), 5);
        CHECKS.due("24 letters within 0", near(x, LONGEST, 0), 1);
        CHECKS.due("24 letters within 2", near(x, "zz" + LONGEST.substring(2), 2), 1);
        CHECKS.due("24 letters within 1", near(x, "zz" + LONGEST.substring(2), 1), 0);
        CHECKS.due("2 strange letters within 2", near(x, "qq", 2), 5);
        CHECKS.due("without terms", new TypoSuggester().near(0), 0);
        CHECKS.due("more than 50", Checks.withAllTerms().near(0), 600);
    }

    private static void nearNoneNotSuchATape() {
        CHECKS.sentence("Promise 9", "NONE: not such a tape");
        TypoSuggester x = Checks.withTerms("cab", 1);
        for (String query : NO_QUERIES) {
            CHECKS.due("near(2) of '" + query + "'", near(x, query, 2), NONE);
        }
    }

    private static void nearNoneNotSuchAD() {
        CHECKS.sentence("Promise 9", "NONE: not such a tape, d");
        TypoSuggester x = Checks.withTerms("cab", 1);
        int[] ds = {-1, 3, 256, Integer.MIN_VALUE, Integer.MAX_VALUE};
        for (int d : ds) {
            CHECKS.due("near(" + d + ")", near(x, "cab", d), NONE);
            CHECKS.due("near(" + d + ") of no letters", x.near(d), NONE);
            CHECKS.due("near(" + d + ") of no query", near(x, "CAB", d), NONE);
        }
    }

    private static void bestOf0To24Letters() {
        CHECKS.sentence("Promise 10", "Takes the tape as letters (0 .. 24, a .. z)");
        TypoSuggester x = Checks.withTerms("a", 1, LONGEST, 2, "zz", 3);
        CHECKS.due("0 letters", x.best(), 3);
        CHECKS.due("1 letter", best(x, "a"), 2);
        CHECKS.due("the last letter", best(x, "z"), 3);
        CHECKS.due("23 letters", best(x, LONGEST.substring(0, 23)), 2);
        CHECKS.due("24 letters", best(x, LONGEST), 2);
        CHECKS.due("25 letters", best(x, LONGEST + "y"), NONE);
    }

    private static void bestTheGreatestWeight() {
        CHECKS.sentence("Promise 10", "the greatest weight of the terms that begin with them");
        TypoSuggester x = Checks.withTerms("b", 900, "ca", 5, "caa", 4, "cab", (1L << 32) + 1, "caz", 6,
            "cb", 800, "d", 0, "e", GREATEST);
        CHECKS.due("the greatest inside", best(x, "ca"), (1L << 32) + 1);
        CHECKS.due("the whole term alone", best(x, "caz"), 6);
        CHECKS.due("the letters before and behind do not count", best(x, "caa"), 4);
        CHECKS.due("weight 0 is not NONE", best(x, "d"), 0);
        CHECKS.due("the greatest of all", x.best(), GREATEST);
    }

    private static void bestNoneThereAreNone() {
        CHECKS.sentence("Promise 10", "NONE: there are none");
        CHECKS.due("no terms, no letters", new TypoSuggester().best(), NONE);
        CHECKS.due("no terms", best(new TypoSuggester(), "a"), NONE);
        TypoSuggester x = Checks.withTerms("cab", 1, LONGEST.substring(0, 23), 2);
        String[] none = {"a".repeat(2), "b", "cb", "caa", "cac", "cabs", "d", "z", LONGEST};
        for (String letters : none) {
            CHECKS.due("best of " + letters, best(x, letters), NONE);
        }
        Checks.type(x, "cab").drop();
        CHECKS.due("best of one that went", best(x, "c"), NONE);
    }

    private static void bestNoneNotSuchATape() {
        CHECKS.sentence("Promise 10", "NONE: there are none, or not such a tape");
        TypoSuggester x = Checks.withTerms("cab", 1, "c", 2, LONGEST, 3);
        for (String letters : NO_QUERIES) {
            CHECKS.due("best of '" + letters + "'", best(x, letters), NONE);
        }
    }

    private static void found0AtFirst() {
        CHECKS.sentence("Promise 12", "How many terms the RESULT has (0 at first)");
        TypoSuggester x = new TypoSuggester();
        CHECKS.due("at first", x.found(), 0);
        Checks.type(x, "cab").set(1);
        CHECKS.due("behind set", x.found(), 0);
        CHECKS.due("near", x.near(2), 1);
        CHECKS.due("best", x.best(), 1);
        CHECKS.due("behind near and best", x.found(), 0);
        CHECKS.due("refused ask", x.ask(0, 0), NONE);
        CHECKS.due("behind it", x.found(), 0);
        CHECKS.due("ask", x.ask(1, 0), 1);
        CHECKS.due("behind it", x.found(), 1);
        CHECKS.due("ask that finds none", ask(x, "xyz", 1, 0), 0);
        CHECKS.due("behind it", x.found(), 0);
        CHECKS.due("nothing of the former", x.of(0, 0), NONE);
    }

    private static void foundItStaysAsItWasFound() {
        CHECKS.sentence("Promise 12", "it stays as it was found");
        TypoSuggester x = asked();
        String want = "cat:8:1 cab:7:0";
        CHECKS.due("as found", Checks.allFound(x), want);
        Checks.type(x, "cab").set(100);
        CHECKS.due("behind another weight", Checks.allFound(x), want);
        Checks.type(x, "caa").set(1000);
        CHECKS.due("behind a new term before them", Checks.allFound(x), want);
        Checks.type(x, "cat cab cas").learn(50);
        CHECKS.due("behind learn", Checks.allFound(x), want);
        Checks.type(x, "cat").drop();
        CHECKS.due("behind the going of one", Checks.allFound(x), want);
        String[] others = {"cab", "caa", "cas", "dog"};
        for (String term : others) {
            Checks.type(x, term).drop();
        }
        CHECKS.due("terms", x.terms(), 0);
        CHECKS.due("behind the going of all", Checks.allFound(x), want);
        near(x, "x", 2);
        best(x, "c");
        Checks.type(x, "cab").weight();
        Checks.type(x, "cab").rank();
        CHECKS.due("behind near, best, weight and rank", Checks.allFound(x), want);
    }

    private static void letterOfTheResult() {
        CHECKS.sentence("Promise 13", "Letter j of term i of the RESULT (97 .. 122)");
        TypoSuggester x = Checks.withTerms("az", 3, LONGEST, 2, "zzzz", 1);
        x.ask(50, 0);
        CHECKS.due("letter(0, 0)", x.letter(0, 0), 97);
        CHECKS.due("letter(0, 1)", x.letter(0, 1), 122);
        for (int j = 0; j < 24; j++) {
            CHECKS.due("letter(1, " + j + ")", x.letter(1, j), 'a' + j);
        }
        CHECKS.due("letter(2, 3)", x.letter(2, 3), 122);
        // 50 of the longest: the last letter of the last has a place as well.
        x = new TypoSuggester();
        for (int i = 0; i < 50; i++) {
            Checks.type(x, LONGEST.substring(0, 22) + Checks.numbered(26 + i)).set(50 - i);
        }
        CHECKS.due("ask(50, 0)", x.ask(50, 0), 50);
        CHECKS.due("letter(49, 22)", x.letter(49, 22), 'b');
        CHECKS.due("letter(49, 23)", x.letter(49, 23), 'x');
        CHECKS.due("letter(49, 24)", x.letter(49, 24), NONE);
        CHECKS.due("letter(50, 0)", x.letter(50, 0), NONE);
    }

    private static void letterNoneSuch() {
        CHECKS.sentence("Promise 13", "NONE: none such.");
        CHECKS.due("letter(0, 0) at first", new TypoSuggester().letter(0, 0), NONE);
        TypoSuggester x = Checks.withTerms("cab", 3, "do", 2, LONGEST, 1);
        x.ask(50, 0);
        // 178956971 * 24 is 8 as an int, and -178956970 * 24 is 16.
        int[][] wrong = {{-1, 0}, {3, 0}, {50, 0}, {0, 3}, {1, 2}, {2, 24}, {0, 24}, {1, -1}, {1, -24}, {2, -1},
            {-1, 24}, {178956971, 0}, {-178956970, 0}, {Integer.MIN_VALUE, 0}, {Integer.MAX_VALUE, 0},
            {0, Integer.MIN_VALUE}, {0, Integer.MAX_VALUE}, {2, Integer.MAX_VALUE}};
        for (int[] w : wrong) {
            CHECKS.due("letter(" + w[0] + ", " + w[1] + ")", x.letter(w[0], w[1]), NONE);
        }
        ask(x, "d", 50, 0);
        CHECKS.due("letter(1, 0) of the former RESULT", x.letter(1, 0), NONE);
        CHECKS.due("letter(0, 2) of the former RESULT", x.letter(0, 2), NONE);
    }

    private static void ofLettersWeightThenNearness() {
        CHECKS.sentence("Promise 14", "what = 0 how many letters, 1 its weight then, 2 its nearness to the query");
        TypoSuggester x = Checks.withTerms("c", GREATEST, LONGEST, 0, "ax", (1L << 32) + 5);
        ask(x, "ab", 50, 2);
        long[][] wants = {{1, GREATEST, 2}, {2, (1L << 32) + 5, 1}, {24, 0, 0}};
        for (int i = 0; i < 3; i++) {
            for (int what = 0; what < 3; what++) {
                CHECKS.due("of(" + i + ", " + what + ")", x.of(i, what), wants[i][what]);
            }
        }
        Checks.type(x, "c").set(1);
        CHECKS.due("its weight then, not now", x.of(0, 1), GREATEST);
        Checks.type(x, "c").drop();
        CHECKS.due("its weight then, though it went", x.of(0, 1), GREATEST);
    }

    private static void ofNoneSuch() {
        CHECKS.sentence("Promise 14", "NONE: none such.");
        CHECKS.due("of(0, 0) at first", new TypoSuggester().of(0, 0), NONE);
        TypoSuggester x = Checks.withTerms("cab", 3, "do", 2);
        x.ask(50, 0);
        int[] is = {-1, 2, 3, 50, 256, Integer.MIN_VALUE, Integer.MAX_VALUE};
        int[] whats = {-1, 3, 256, Integer.MIN_VALUE, Integer.MAX_VALUE};
        for (int i : is) {
            for (int what = 0; what < 3; what++) {
                CHECKS.due("of(" + i + ", " + what + ")", x.of(i, what), NONE);
            }
        }
        for (int what : whats) {
            CHECKS.due("of(0, " + what + ")", x.of(0, what), NONE);
            CHECKS.due("of(2, " + what + ")", x.of(2, what), NONE);
        }
        ask(x, "d", 50, 0);
        CHECKS.due("of(1, 1) of the former RESULT", x.of(1, 1), NONE);
    }
}
