/** The boundary cases that the document names under "Terms", but for those of the tape. */
public final class BoundaryTermsTest {
    private static final int NONE = TypoSuggester.NONE;
    private static final int FULL = TypoSuggester.FULL;
    private static final long GREATEST = 1000000000000L;
    private static final String LONGEST = "abcdefghijklmnopqrstuvwx";
    private static final Checks CHECKS = new Checks("BoundaryTermsTest");

    public static void main(String[] args) {
        anObjectIsUsedForAtMost512Calls();
        aTermIsARowOf1To24Letters();
        lettersAToZ();
        withAWeight0To1000000000000();
        thereAreAtMost600();
        ofAtMost6000LettersTogether();
        aNewOneWithWhichThereWouldBeMoreIsNotTakenIn();
        theirOrderIsByTheFirstLetterInWhichTheyDiffer();
        oneThatAnotherBeginsWithGoesBeforeThat();
        theLeastNumberOfLetters();
        lettersToBePutIn();
        lettersToBeLeftOut();
        lettersPutInPlaceOfAnotherOne();
        nearWithinDWhenSomePrefixIs();
        nonePrefixOfItToo();
        allOfItsLettersToo();
        nearnessIsTheLeastDistanceOfAnyOfItsPrefixes();
        CHECKS.end();
    }

    private static int set(TypoSuggester x, String term, long weight) {
        return Checks.type(x, term).set(weight);
    }

    private static long weightOf(TypoSuggester x, String term) {
        return Checks.type(x, term).weight();
    }

    /** The nearness of a term to a query as ask finds it within 2; NONE if it is not near. */
    private static long nearness(String term, String query) {
        TypoSuggester x = Checks.withTerms(term, 1);
        return Checks.type(x, query).ask(1, 2) == 1 ? x.of(0, 2) : NONE;
    }

    private static void anObjectIsUsedForAtMost512Calls() {
        CHECKS.sentence("What it is", "An object is used for at most 512 calls after it has been made");
        TypoSuggester x = new TypoSuggester();
        int calls = 0;
        for (; calls < 508; calls += 2) {
            x.feed('a' << 24 | 'b' << 16 | 'c' << 8 | 'a' + calls / 2 % 26);
            x.set(calls);
        }
        CHECKS.due("call 509, terms", x.terms(), 26);
        CHECKS.due("call 510, feed", x.feed(0x61626361), 4);
        CHECKS.due("call 511, weight", x.weight(), 2 * (234 / 26 * 26));
        CHECKS.due("call 512, letters", x.letters(), 104);
        for (int i = 0; i < 5000; i++) {
            x.feed(i);
            x.learn(i);
            x.ask(i % 60, i % 4);
        }
    }

    private static void aTermIsARowOf1To24Letters() {
        CHECKS.sentence("Terms", "A TERM is a row of 1 .. 24 letters");
        TypoSuggester x = new TypoSuggester();
        CHECKS.due("set of 0 letters", x.set(1), NONE);
        CHECKS.due("set of 1 letter", set(x, "m", 1), 1);
        CHECKS.due("set of 23 letters", set(x, LONGEST.substring(1), 1), 1);
        CHECKS.due("set of 24 letters", set(x, LONGEST, 1), 1);
        CHECKS.due("set of 25 letters", set(x, LONGEST + "y", 1), NONE);
        CHECKS.due("set of 400 letters", set(x, "a".repeat(400), 1), NONE);
        CHECKS.due("set of 256 + 3 letters", set(x, "a".repeat(259), 1), NONE);
        CHECKS.due("the terms", Checks.allTerms(x), LONGEST + " " + LONGEST.substring(1) + " m");
    }

    private static void lettersAToZ() {
        CHECKS.sentence("Terms", "letters a .. z");
        for (int b = 0; b < 256; b++) {
            boolean letter = b >= 'a' && b <= 'z';
            TypoSuggester x = new TypoSuggester();
            CHECKS.due("set of byte " + b, set(x, String.valueOf((char) b), 1), letter ? 1 : NONE);
            CHECKS.due("set with byte " + b, set(x, "m" + (char) b + "m", 1), letter ? 1 : NONE);
            CHECKS.due("terms", x.terms(), letter ? 2 : 0);
        }
    }

    private static void withAWeight0To1000000000000() {
        CHECKS.sentence("Terms", "with a WEIGHT 0 .. 1000000000000");
        TypoSuggester x = new TypoSuggester();
        long[] weights = {0, 1, GREATEST - 1, GREATEST, Integer.MAX_VALUE, 1L << 31, 1L << 32, (1L << 32) + 7};
        for (long weight : weights) {
            set(x, "cab", weight);
            CHECKS.due("weight after set(" + weight + ")", weightOf(x, "cab"), weight);
        }
        set(x, "cab", 5);
        // The last three have the low bits of a weight, and must not be taken for it.
        long[] noWeights = {-1, GREATEST + 1, Long.MIN_VALUE, Long.MAX_VALUE, Long.MIN_VALUE + 3,
            -(1L << 32) + 3, (1L << 62) + 3};
        for (long weight : noWeights) {
            CHECKS.due("set(" + weight + ")", set(x, "cab", weight), NONE);
            CHECKS.due("set(" + weight + ") of a new one", set(x, "dog", weight), NONE);
        }
        CHECKS.due("weight after those", weightOf(x, "cab"), 5);
        CHECKS.due("terms", x.terms(), 1);
    }

    private static void thereAreAtMost600() {
        CHECKS.sentence("Terms", "There are at most 600");
        TypoSuggester x = Checks.withAllTerms();
        CHECKS.due("terms", x.terms(), 600);
        CHECKS.due("letters", x.letters(), 26 + 2 * 574);
        CHECKS.due("prefixes", x.prefixes(), 601);
        CHECKS.due("the first one's letter", x.term(0, 0), 'a');
        CHECKS.due("the last one's letter", x.term(599, 0), 'z');
        CHECKS.due("a letter of one more", x.term(600, 0), NONE);
        CHECKS.due("set of one more", set(x, "zz", 1), FULL);
        CHECKS.due("terms", x.terms(), 600);
        CHECKS.due("near", x.near(0), 600);
        CHECKS.due("rank of the last", Checks.type(x, "z").rank(), 599);
        CHECKS.due("drop", Checks.type(x, "aa").drop(), 1);
        CHECKS.due("set with room for one", set(x, "zz", 1), 1);
        CHECKS.due("set of one more", set(x, "aa", 1), FULL);
        CHECKS.due("terms", x.terms(), 600);
        CHECKS.due("a letter of the last", x.term(599, 1), 'z');
    }

    /** 512 calls can't feed 6000 letters, so this goes beyond them; the limit must hold all the same. */
    private static void ofAtMost6000LettersTogether() {
        CHECKS.sentence("Terms", "of at most 6000 letters together");
        TypoSuggester x = new TypoSuggester();
        for (int i = 26; i < 26 + 249; i++) {
            set(x, Checks.numbered(i) + "m".repeat(22), 1);
        }
        CHECKS.due("letters of 249 terms", x.letters(), 5976);
        CHECKS.due("set of 24 more", set(x, "z".repeat(24), 1), 1);
        CHECKS.due("letters", x.letters(), 6000);
        CHECKS.due("set of 1 more", set(x, "q", 1), FULL);
        CHECKS.due("learn of 1 more", Checks.type(x, "q").learn(1), 0);
        CHECKS.due("drop of 24", Checks.type(x, "z".repeat(24)).drop(), 1);
        CHECKS.due("set of 23", set(x, "z".repeat(23), 1), 1);
        CHECKS.due("set of 2 more", set(x, "qq", 1), FULL);
        CHECKS.due("set of 1 more", set(x, "q", 1), 1);
        CHECKS.due("letters", x.letters(), 6000);
        CHECKS.due("terms", x.terms(), 251);
    }

    private static void aNewOneWithWhichThereWouldBeMoreIsNotTakenIn() {
        CHECKS.sentence("Terms", "a new one with which there would be more is not taken in");
        TypoSuggester x = Checks.withAllTerms();
        CHECKS.due("set of a new one", set(x, "ayy", 7), FULL);
        CHECKS.due("learn of new ones", Checks.type(x, "ayy azz").learn(7), 0);
        CHECKS.due("weight of a new one", weightOf(x, "ayy"), NONE);
        CHECKS.due("terms", x.terms(), 600);
        CHECKS.due("letters", x.letters(), 1174);
        CHECKS.due("best of all", x.best(), 1);
        CHECKS.due("set of one that is there", set(x, "ay", 7), 0);
        CHECKS.due("learn of one that is there", Checks.type(x, "ay").learn(7), 1);
        CHECKS.due("its weight", weightOf(x, "ay"), 14);
        CHECKS.due("terms", x.terms(), 600);
        CHECKS.due("the term behind it", x.term(26, 1), 'z');
        CHECKS.due("and the next", x.term(27, 0), 'b');
    }

    private static void theirOrderIsByTheFirstLetterInWhichTheyDiffer() {
        CHECKS.sentence("Terms", "THEIR ORDER is by the first letter in which they differ");
        TypoSuggester x = Checks.withTerms("zaaa", 1, "b", 9, "azz", 0, "ab", 3, "aaz", 2, "aba", 5, "yzzzzz", 7);
        CHECKS.due("the order", Checks.allTerms(x), "aaz ab aba azz b yzzzzz zaaa");
        String first23 = LONGEST.substring(0, 23);
        x = Checks.withTerms(first23 + "z", 1, first23 + "a", 1, first23 + "m", 1);
        CHECKS.due("the order by letter 24", Checks.allTerms(x),
            first23 + "a " + first23 + "m " + first23 + "z");
    }

    private static void oneThatAnotherBeginsWithGoesBeforeThat() {
        CHECKS.sentence("Terms", "one that another begins with goes before that");
        TypoSuggester x = Checks.withTerms("cabs", 9, "cab", 1, "c", 1, "ca", 5, "cabsa", 0);
        CHECKS.due("longest first", Checks.allTerms(x), "c ca cab cabs cabsa");
        x = Checks.withTerms("a", 1, "aa", 1, "aaa", 1);
        CHECKS.due("shortest first", Checks.allTerms(x), "a aa aaa");
        x = Checks.withTerms(LONGEST, 1, LONGEST.substring(0, 23), 1);
        CHECKS.due("24 and 23 letters", Checks.allTerms(x), LONGEST.substring(0, 23) + " " + LONGEST);
    }

    private static void theLeastNumberOfLetters() {
        CHECKS.sentence("Terms", "the least number of letters");
        CHECKS.due("no change", nearness("stone", "stone"), 0);
        // Letter by letter these differ everywhere; one put in and one left out are fewer.
        CHECKS.due("moved by one", nearness("abcdef", "bcdef"), 1);
        CHECKS.due("moved by one the other way", nearness("abcdef", "xabcdef"), 1);
        CHECKS.due("two that change places", nearness("stone", "sotne"), 2);
        CHECKS.due("one put in, one left out", nearness("abcdef", "bcdeef"), 2);
        CHECKS.due("24 letters, two changed", nearness(LONGEST, "z" + LONGEST.substring(1, 23) + "z"), 2);
        CHECKS.due("24 letters, three changed", nearness(LONGEST, "zz" + LONGEST.substring(2, 23) + "z"), NONE);
    }

    private static void lettersToBePutIn() {
        CHECKS.sentence("Terms", "letters to be put in");
        CHECKS.due("1, at the front", nearness("stone", "tone"), 1);
        CHECKS.due("1, inside", nearness("stone", "stne"), 1);
        CHECKS.due("2, inside", nearness("stone", "soe"), 2);
        CHECKS.due("3", nearness("xyzabcd", "abcd"), NONE);
    }

    private static void lettersToBeLeftOut() {
        CHECKS.sentence("Terms", "left out");
        CHECKS.due("1, at the front", nearness("stone", "xstone"), 1);
        CHECKS.due("1, inside", nearness("stone", "stxone"), 1);
        CHECKS.due("1, at the end", nearness("stone", "stonex"), 1);
        CHECKS.due("2, at the end", nearness("stone", "stonexy"), 2);
        CHECKS.due("3, at the end", nearness("stone", "stonexyz"), NONE);
    }

    private static void lettersPutInPlaceOfAnotherOne() {
        CHECKS.sentence("Terms", "put in place of another one");
        CHECKS.due("1, at the front", nearness("stone", "xtone"), 1);
        CHECKS.due("1, inside", nearness("stone", "stxne"), 1);
        CHECKS.due("1, at the end", nearness("stone", "stonx"), 1);
        CHECKS.due("2", nearness("stone", "sxoxe"), 2);
        CHECKS.due("3", nearness("stone", "xxoxe"), NONE);
    }

    private static void nearWithinDWhenSomePrefixIs() {
        CHECKS.sentence("Terms", "has a distance of at most d from the query");
        String[] queries = {"stone", "sxone", "sxoxe", "xxoxe"};
        for (int distance = 0; distance < 4; distance++) {
            for (int d = 0; d <= 2; d++) {
                TypoSuggester x = Checks.withTerms("stones", 1);
                int want = distance <= d ? 1 : 0;
                CHECKS.due("near(" + d + ") at " + distance, Checks.type(x, queries[distance]).near(d), want);
                CHECKS.due("ask(1, " + d + ") at " + distance, Checks.type(x, queries[distance]).ask(1, d), want);
            }
        }
    }

    private static void nonePrefixOfItToo() {
        CHECKS.sentence("Terms", "some prefix of it (none or all of its letters, too)");
        CHECKS.due("no letters asked for", nearness("stone", ""), 0);
        CHECKS.due("1 strange letter", nearness("stone", "x"), 1);
        CHECKS.due("2 strange letters", nearness("stone", "xx"), 2);
        CHECKS.due("3 strange letters", nearness("stone", "xxx"), NONE);
        TypoSuggester x = Checks.withTerms("stone", 1);
        CHECKS.due("1 strange letter within 0", Checks.type(x, "x").near(0), 0);
        CHECKS.due("2 strange letters within 1", Checks.type(x, "xx").near(1), 0);
        CHECKS.due("no letters within 0", x.near(0), 1);
    }

    private static void allOfItsLettersToo() {
        CHECKS.sentence("Terms", "none or all of its letters, too");
        CHECKS.due("the whole term", nearness(LONGEST, LONGEST), 0);
        CHECKS.due("a term of one letter", nearness("s", "s"), 0);
        CHECKS.due("the whole and two more", nearness("s", "sxx"), 2);
        CHECKS.due("the whole with its last changed", nearness("stone", "stonx"), 1);
        CHECKS.due("22 of 24", nearness(LONGEST.substring(0, 22), LONGEST), 2);
        CHECKS.due("21 of 24", nearness(LONGEST.substring(0, 21), LONGEST), NONE);
        // No more than all: the next term's letters must not be taken for letters of this one.
        TypoSuggester x = Checks.withTerms("ca", 1, "tx", 2);
        CHECKS.due("ca and tx are no cat", Checks.type(x, "cat").near(0), 0);
        CHECKS.due("ca and tx are no catx", Checks.type(x, "catx").near(1), 0);
        CHECKS.due("ca is one from cat", Checks.type(x, "cat").ask(5, 1), 1);
        CHECKS.due("the RESULT", Checks.allFound(x), "ca:1:1");
    }

    private static void nearnessIsTheLeastDistanceOfAnyOfItsPrefixes() {
        CHECKS.sentence("Terms", "its NEARNESS is the least distance of any of its prefixes");
        CHECKS.due("a prefix inside", nearness("stonewall", "stone"), 0);
        CHECKS.due("longer than the query is nearer", nearness("stonewall", "sone"), 1);
        CHECKS.due("shorter than the query is nearer", nearness("stoxxxxx", "stone"), 2);
        CHECKS.due("two longer is the nearest", nearness("xystonewall", "stone"), 2);
        CHECKS.due("a later one is nearer again", nearness("abab", "bab"), 1);
        CHECKS.due("ask within 2 tells the least, not 2", nearness("stonewall", "stonewa"), 0);
    }
}
