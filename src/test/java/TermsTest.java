/** Promises 1, 5, 6, 7 and 15 to 18: terms that are set, dropped, weighed and looked at. */
public final class TermsTest {
    private static final int NONE = TypoSuggester.NONE;
    private static final long GREATEST = 1000000000000L;
    private static final String LONGEST = "abcdefghijklmnopqrstuvwx";
    private static final Checks CHECKS = new Checks("TermsTest");

    public static void main(String[] args) {
        newObject();
        setTellsNewFromOld();
        setRefuses();
        setTakesEveryWeight();
        dropTellsTheWeight();
        weightTellsNoneOfOthers();
        termsStandInTheirOrder();
        dropKeepsTheOrder();
        termRefuses();
        prefixesAreCountedOnce();
        noMoreThan6000Letters();
        CHECKS.end();
    }

    private static void newObject() {
        TypoSuggester x = new TypoSuggester();
        CHECKS.due("terms", x.terms(), 0);
        CHECKS.due("letters", x.letters(), 0);
        CHECKS.due("prefixes", x.prefixes(), 0);
        CHECKS.due("term(0, 0)", x.term(0, 0), NONE);
        CHECKS.due("found", x.found(), 0);
        CHECKS.due("the tape", Checks.tapeSize(x), 0);
        CHECKS.due("near", x.near(2), 0);
        CHECKS.due("ask", x.ask(50, 2), 0);
        Checks.type(x, "cab").set(1);
        CHECKS.due("terms of another object", new TypoSuggester().terms(), 0);
    }

    private static void setTellsNewFromOld() {
        TypoSuggester x = new TypoSuggester();
        CHECKS.due("set of a new one", Checks.type(x, "cab").set(4), 1);
        CHECKS.due("set again", Checks.type(x, "cab").set(2), 0);
        CHECKS.due("weight", Checks.type(x, "cab").weight(), 2);
        CHECKS.due("set of a prefix", Checks.type(x, "ca").set(5), 1);
        CHECKS.due("set of a longer one", Checks.type(x, "cabs").set(6), 1);
        CHECKS.due("terms", x.terms(), 3);
        CHECKS.due("weight of the first", Checks.type(x, "cab").weight(), 2);
    }

    private static void setRefuses() {
        String[] noTerms = {"", "Cab", "cAb", "caB", "c b", "cab ", " cab", "ca`", "ca{", "ca\u00e9",
            "ca\0", LONGEST + "y", LONGEST.repeat(16)};
        TypoSuggester x = new TypoSuggester();
        for (String tape : noTerms) {
            CHECKS.due("set of '" + tape + "'", Checks.type(x, tape).set(1), NONE);
        }
        long[] noWeights = {-1, GREATEST + 1, Long.MIN_VALUE, Long.MAX_VALUE};
        for (long weight : noWeights) {
            CHECKS.due("set(" + weight + ")", Checks.type(x, "cab").set(weight), NONE);
        }
        CHECKS.due("terms", x.terms(), 0);
        Checks.type(x, "cab").set(3);
        CHECKS.due("set(-1) of one there", Checks.type(x, "cab").set(-1), NONE);
        CHECKS.due("its weight stays", Checks.type(x, "cab").weight(), 3);
    }

    private static void setTakesEveryWeight() {
        TypoSuggester x = new TypoSuggester();
        long[] weights = {0, 1, 1L << 31, 1L << 32, GREATEST};
        for (long weight : weights) {
            Checks.type(x, "az").set(weight);
            CHECKS.due("weight " + weight, Checks.type(x, "az").weight(), weight);
        }
        CHECKS.due("set of the longest", Checks.type(x, LONGEST).set(1), 1);
        CHECKS.due("letters", x.letters(), 26);
    }

    private static void dropTellsTheWeight() {
        TypoSuggester x = Checks.withTerms("cab", 4, "cabs", GREATEST, "c", 0);
        CHECKS.due("drop of cabs", Checks.type(x, "cabs").drop(), GREATEST);
        CHECKS.due("drop of it again", Checks.type(x, "cabs").drop(), NONE);
        CHECKS.due("drop of c", Checks.type(x, "c").drop(), 0);
        CHECKS.due("drop of a prefix", Checks.type(x, "ca").drop(), NONE);
        CHECKS.due("drop of no term", Checks.type(x, "Cab").drop(), NONE);
        CHECKS.due("drop of nothing", x.drop(), NONE);
        CHECKS.due("drop of too long a row", Checks.type(x, LONGEST + "y").drop(), NONE);
        CHECKS.due("terms", Checks.allTerms(x), "cab");
        CHECKS.due("drop of the last", Checks.type(x, "cab").drop(), 4);
        CHECKS.due("terms", x.terms(), 0);
        CHECKS.due("letters", x.letters(), 0);
        CHECKS.due("set of a dropped one", Checks.type(x, "cab").set(1), 1);
    }

    private static void weightTellsNoneOfOthers() {
        TypoSuggester x = Checks.withTerms("cab", 4, LONGEST, 5);
        CHECKS.due("weight of cab", Checks.type(x, "cab").weight(), 4);
        CHECKS.due("weight of the longest", Checks.type(x, LONGEST).weight(), 5);
        String[] others = {"", "ca", "cabs", "cac", "caa", "CAB", "cab ", LONGEST + "y"};
        for (String other : others) {
            CHECKS.due("weight of '" + other + "'", Checks.type(x, other).weight(), NONE);
        }
    }

    private static void termsStandInTheirOrder() {
        TypoSuggester x = Checks.withTerms("zoo", 9, "b", 1, "ab", 5, "abc", 3, "a", 0, "abb", 2, "ba", 7,
            "zz", 1, "aab", 8, "z", 4);
        CHECKS.due("order", Checks.allTerms(x), "a aab ab abb abc b ba z zoo zz");
        CHECKS.due("terms", x.terms(), 10);
        CHECKS.due("letters", x.letters(), 21);
    }

    private static void dropKeepsTheOrder() {
        TypoSuggester x = Checks.withTerms("dog", 1, "ca", 2, "cat", 3, "cable", 4, "a", 5, "e", 6);
        Checks.type(x, "cat").drop();
        CHECKS.due("order", Checks.allTerms(x), "a ca cable dog e");
        Checks.type(x, "a").drop();
        CHECKS.due("order", Checks.allTerms(x), "ca cable dog e");
        Checks.type(x, "e").drop();
        CHECKS.due("order", Checks.allTerms(x), "ca cable dog");
        CHECKS.due("letters", x.letters(), 10);
        CHECKS.due("weight of ca", Checks.type(x, "ca").weight(), 2);
        CHECKS.due("weight of cable", Checks.type(x, "cable").weight(), 4);
        CHECKS.due("weight of dog", Checks.type(x, "dog").weight(), 1);
    }

    private static void termRefuses() {
        TypoSuggester x = Checks.withTerms("cab", 1, "do", 2);
        CHECKS.due("term(0, 0)", x.term(0, 0), 'c');
        CHECKS.due("term(1, 1)", x.term(1, 1), 'o');
        int[][] wrong = {{-1, 0}, {0, -1}, {0, 3}, {1, 2}, {2, 0}, {600, 0}, {0, Integer.MAX_VALUE},
            {Integer.MAX_VALUE, 0}, {Integer.MIN_VALUE, 0}, {1, Integer.MIN_VALUE}, {1, -1}};
        for (int[] w : wrong) {
            CHECKS.due("term(" + w[0] + ", " + w[1] + ")", x.term(w[0], w[1]), NONE);
        }
    }

    private static void prefixesAreCountedOnce() {
        TypoSuggester x = Checks.withTerms("cab", 1);
        CHECKS.due("of cab", x.prefixes(), 4);
        Checks.type(x, "cable").set(1);
        CHECKS.due("and cable", x.prefixes(), 6);
        Checks.type(x, "ca").set(1);
        CHECKS.due("and ca", x.prefixes(), 6);
        Checks.type(x, "dab").set(1);
        CHECKS.due("and dab", x.prefixes(), 9);
        Checks.type(x, "cat").set(1);
        CHECKS.due("and cat", x.prefixes(), 10);
        Checks.type(x, "cable").drop();
        CHECKS.due("without cable", x.prefixes(), 8);
    }

    /**
     * The bytes that 512 calls can feed are fewer than 6000, so this goes beyond what is promised
     * of an object; but the room must hold for it all the same.
     */
    private static void noMoreThan6000Letters() {
        TypoSuggester x = new TypoSuggester();
        for (int i = 0; i < 249; i++) {
            String term = "" + (char) ('a' + i / 26) + (char) ('a' + i % 26) + "m".repeat(22);
            CHECKS.due("set of " + term, Checks.type(x, term).set(i), 1);
        }
        CHECKS.due("letters", x.letters(), 5976);
        CHECKS.due("set of 23 letters", Checks.type(x, "x".repeat(23)).set(1), 1);
        CHECKS.due("learn of 1 and 2 letters", Checks.type(x, "zz y").learn(1), 1);
        CHECKS.due("letters", x.letters(), 6000);
        CHECKS.due("set of one more", Checks.type(x, "z").set(1), TypoSuggester.FULL);
        CHECKS.due("learn of one more", Checks.type(x, "z y").learn(1), 1);
        CHECKS.due("letters", x.letters(), 6000);
        CHECKS.due("terms", x.terms(), 251);
    }
}
