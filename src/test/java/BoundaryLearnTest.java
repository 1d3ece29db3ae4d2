import java.util.Locale;

/** The boundary cases of promise 4. */
public final class BoundaryLearnTest {
    private static final int NONE = TypoSuggester.NONE;
    private static final long GREATEST = 1000000000000L;
    private static final String LONGEST = "abcdefghijklmnopqrstuvwx";
    private static final Checks CHECKS = new Checks("BoundaryLearnTest");

    public static void main(String[] args) {
        takesTheTapeAsAText();
        aToZGreatOnesAsThese();
        thatNoLetterStandsBeside();
        isOneMoreUseOfItsTerm();
        ofMoreThan24LettersTheFirst24();
        theTermsWeightGrowsBySoMuch();
        upToTheGreatest();
        aNewOneHasIt();
        howManyUsesWereTakenIn();
        noneTheTapeStayingWeightIsNot0To1000000();
        CHECKS.end();
    }

    private static int learn(TypoSuggester x, String text, int weight) {
        return Checks.type(x, text).learn(weight);
    }

    private static long weightOf(TypoSuggester x, String term) {
        return Checks.type(x, term).weight();
    }

    private static void takesTheTapeAsAText() {
        CHECKS.sentence("Promise 4", "Takes the tape as a text");
        TypoSuggester x = new TypoSuggester();
        CHECKS.due("no bytes", learn(x, "", 1), 0);
        CHECKS.due("one byte, no letter", learn(x, " ", 1), 0);
        CHECKS.due("400 bytes, no letter", learn(x, "\0".repeat(400), 1), 0);
        CHECKS.due("terms", x.terms(), 0);
        CHECKS.due("one byte, a letter", learn(x, "q", 1), 1);
        CHECKS.due("400 bytes, 200 letters", learn(x, "q ".repeat(200), 1), 200);
        CHECKS.due("weight", weightOf(x, "q"), 201);
        CHECKS.due("a letter at each end of 400 bytes", learn(x, "b" + " ".repeat(398) + "e", 1), 2);
        CHECKS.due("the terms", Checks.allTerms(x), "b e q");
    }

    private static void aToZGreatOnesAsThese() {
        CHECKS.sentence("Promise 4", "a .. z, A .. Z as these");
        TypoSuggester x = new TypoSuggester();
        CHECKS.due("small and great", learn(x, "az AZ aZ Az", 1), 4);
        CHECKS.due("the terms", Checks.allTerms(x), "az");
        CHECKS.due("weight", weightOf(x, "az"), 4);
        for (int b = 0; b < 256; b++) {
            boolean letter = b >= 'a' && b <= 'z' || b >= 'A' && b <= 'Z';
            x = new TypoSuggester();
            CHECKS.due("learn of byte " + b, learn(x, String.valueOf((char) b), 1), letter ? 1 : 0);
            CHECKS.due("the letter of byte " + b, x.term(0, 0), letter ? Character.toLowerCase(b) : NONE);
        }
    }

    private static void thatNoLetterStandsBeside() {
        CHECKS.sentence("Promise 4", "that no letter stands beside");
        TypoSuggester x = new TypoSuggester();
        // The bytes right beside a .. z and A .. Z, digits, and letters with the sign bit.
        CHECKS.due("learn", learn(x, "cab@dog[elk`fox{gnu7hen\u00e1ibis\u00c1jay\0kid", 1), 9);
        CHECKS.due("the terms", Checks.allTerms(x), "cab dog elk fox gnu hen ibis jay kid");
        x = new TypoSuggester();
        CHECKS.due("no part of a longer row", learn(x, "cabDOG", 1), 1);
        CHECKS.due("the term", Checks.allTerms(x), "cabdog");
    }

    private static void isOneMoreUseOfItsTerm() {
        CHECKS.sentence("Promise 4", "is one more use of its term");
        TypoSuggester x = Checks.withTerms("cab", 10);
        CHECKS.due("at the text's front", learn(x, "cab ", 1), 1);
        CHECKS.due("at the text's end", learn(x, " cab", 1), 1);
        CHECKS.due("both", learn(x, "cab cab", 1), 2);
        CHECKS.due("many others between", learn(x, "cab    .;!   cab", 1), 2);
        CHECKS.due("weight", weightOf(x, "cab"), 16);
        CHECKS.due("terms", x.terms(), 1);
    }

    private static void ofMoreThan24LettersTheFirst24() {
        CHECKS.sentence("Promise 4", "of more than 24 letters the first 24");
        TypoSuggester x = new TypoSuggester();
        CHECKS.due("23 letters", learn(x, LONGEST.substring(0, 23), 1), 1);
        CHECKS.due("23 are not 24", weightOf(x, LONGEST), NONE);
        CHECKS.due("24 letters", learn(x, LONGEST, 1), 1);
        CHECKS.due("25 letters", learn(x, LONGEST + "y", 1), 1);
        CHECKS.due("48 letters", learn(x, LONGEST + LONGEST, 1), 1);
        CHECKS.due("49 great letters", learn(x, (LONGEST + LONGEST).toUpperCase(Locale.ROOT) + "Q", 1), 1);
        CHECKS.due("the terms", Checks.allTerms(x), LONGEST.substring(0, 23) + " " + LONGEST);
        CHECKS.due("weight of the 24", weightOf(x, LONGEST), 4);
        CHECKS.due("400 letters", learn(x, "z".repeat(400), 1), 1);
        CHECKS.due("the next row is whole again", learn(x, "y".repeat(30) + " yy", 1), 2);
        CHECKS.due("the terms", Checks.allTerms(x), LONGEST.substring(0, 23) + " " + LONGEST + " yy "
            + "y".repeat(24) + " " + "z".repeat(24));
    }

    private static void theTermsWeightGrowsBySoMuch() {
        CHECKS.sentence("Promise 4", "the term's weight grows by so much");
        TypoSuggester x = Checks.withTerms("cab", 0, "dog", 5000000000L);
        CHECKS.due("by 0", learn(x, "cab dog", 0), 2);
        CHECKS.due("weight of cab", weightOf(x, "cab"), 0);
        CHECKS.due("weight of dog", weightOf(x, "dog"), 5000000000L);
        CHECKS.due("by 1000000", learn(x, "cab dog", 1000000), 2);
        CHECKS.due("weight of cab", weightOf(x, "cab"), 1000000);
        CHECKS.due("weight of dog", weightOf(x, "dog"), 5001000000L);
        // 2,147,483,647 and one step more: the sum must not wrap as an int would.
        x = Checks.withTerms("elk", Integer.MAX_VALUE);
        CHECKS.due("beyond an int", learn(x, "elk", 1), 1);
        CHECKS.due("weight of elk", weightOf(x, "elk"), 2147483648L);
    }

    private static void upToTheGreatest() {
        CHECKS.sentence("Promise 4", "up to the greatest");
        TypoSuggester x = Checks.withTerms("below", GREATEST - 2, "at", GREATEST, "far", GREATEST - 1000001);
        CHECKS.due("one below it", learn(x, "below", 1), 1);
        CHECKS.due("weight", weightOf(x, "below"), GREATEST - 1);
        CHECKS.due("just to it", learn(x, "below", 1), 1);
        CHECKS.due("weight", weightOf(x, "below"), GREATEST);
        CHECKS.due("beyond it", learn(x, "below at", 1), 2);
        CHECKS.due("weight", weightOf(x, "below"), GREATEST);
        CHECKS.due("weight", weightOf(x, "at"), GREATEST);
        CHECKS.due("not yet to it", learn(x, "far", 1000000), 1);
        CHECKS.due("weight", weightOf(x, "far"), GREATEST - 1);
        CHECKS.due("far beyond it, by many uses", learn(x, "far ".repeat(100), 1000000), 100);
        CHECKS.due("weight", weightOf(x, "far"), GREATEST);
    }

    private static void aNewOneHasIt() {
        CHECKS.sentence("Promise 4", "a new one has it");
        int[] weights = {0, 1, 1000000};
        for (int weight : weights) {
            TypoSuggester x = new TypoSuggester();
            CHECKS.due("learn(" + weight + ")", learn(x, "cab", weight), 1);
            CHECKS.due("weight", weightOf(x, "cab"), weight);
            CHECKS.due("the next use adds", learn(x, "cab cab", weight), 2);
            CHECKS.due("weight", weightOf(x, "cab"), 3L * weight);
        }
        TypoSuggester x = Checks.withTerms("cab", 9);
        Checks.type(x, "cab").drop();
        learn(x, "cab", 2);
        CHECKS.due("weight of one that went and came again", weightOf(x, "cab"), 2);
    }

    private static void howManyUsesWereTakenIn() {
        CHECKS.sentence("Promise 4", "How many uses were taken in");
        TypoSuggester x = Checks.withAllTerms();
        CHECKS.due("none new has room", learn(x, "yyy zzz yyy", 3), 0);
        CHECKS.due("those there before and behind it", learn(x, "a yyy b zzz a", 3), 3);
        CHECKS.due("weight of a", weightOf(x, "a"), 7);
        CHECKS.due("weight of b", weightOf(x, "b"), 4);
        CHECKS.due("terms", x.terms(), 600);
        Checks.type(x, "wb").drop();
        CHECKS.due("room for the first new one alone", learn(x, "yyy zzz yyy zzz", 3), 2);
        CHECKS.due("weight of yyy", weightOf(x, "yyy"), 6);
        CHECKS.due("weight of zzz", weightOf(x, "zzz"), NONE);
        CHECKS.due("terms", x.terms(), 600);
    }

    private static void noneTheTapeStayingWeightIsNot0To1000000() {
        CHECKS.sentence("Promise 4", "NONE, the tape staying: weight is not 0 .. 1000000");
        int[] wrong = {-1, 1000001, Integer.MIN_VALUE, Integer.MAX_VALUE, Integer.MIN_VALUE + 1};
        for (int weight : wrong) {
            TypoSuggester x = Checks.type(Checks.withTerms("dog", 4), "cab dog");
            CHECKS.due("learn(" + weight + ")", x.learn(weight), NONE);
            CHECKS.due("terms", x.terms(), 1);
            CHECKS.due("the tape stays", Checks.tapeSize(x), 7);
            CHECKS.due("learn of what stayed", x.learn(1), 2);
            CHECKS.due("weight of dog", weightOf(x, "dog"), 5);
            CHECKS.due("learn(" + weight + ") of an empty tape", x.learn(weight), NONE);
        }
        CHECKS.due("learn(0)", learn(new TypoSuggester(), "cab", 0), 1);
        CHECKS.due("learn(1000000)", learn(new TypoSuggester(), "cab", 1000000), 1);
    }
}
