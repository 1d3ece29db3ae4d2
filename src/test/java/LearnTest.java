import java.util.Locale;

/** Promise 4: learn. */
public final class LearnTest {
    private static final int NONE = TypoSuggester.NONE;
    private static final Checks CHECKS = new Checks("LearnTest");

    public static void main(String[] args) {
        usesAreRowsOfLetters();
        greatLettersAreSmallOnes();
        everyOtherByteParts();
        longRowsKeepTheirFirst24();
        weightsGrowUpToTheGreatest();
        weightLimits();
        noRoomForOneTermMore();
        CHECKS.end();
    }

    private static long weightOf(TypoSuggester x, String term) {
        return Checks.type(x, term).weight();
    }

    private static void usesAreRowsOfLetters() {
        TypoSuggester x = new TypoSuggester();
        CHECKS.due("learn of an empty tape", x.learn(5), 0);
        CHECKS.due("learn without letters", Checks.type(x, " 12-;. ").learn(5), 0);
        CHECKS.due("terms", x.terms(), 0);
        CHECKS.due("learn", Checks.type(x, "a cat, a dog; cat").learn(5), 5);
        CHECKS.due("terms", Checks.allTerms(x), "a cat dog");
        CHECKS.due("weight of a", weightOf(x, "a"), 10);
        CHECKS.due("weight of cat", weightOf(x, "cat"), 10);
        CHECKS.due("weight of dog", weightOf(x, "dog"), 5);
        CHECKS.due("learn more", Checks.type(x, "..dog..").learn(7), 1);
        CHECKS.due("weight of dog", weightOf(x, "dog"), 12);
    }

    private static void greatLettersAreSmallOnes() {
        TypoSuggester x = new TypoSuggester();
        CHECKS.due("learn", Checks.type(x, "Cat CAT cAt AZ az Za").learn(1), 6);
        CHECKS.due("terms", Checks.allTerms(x), "az cat za");
        CHECKS.due("weight of cat", weightOf(x, "cat"), 3);
        CHECKS.due("weight of az", weightOf(x, "az"), 2);
    }

    private static void everyOtherByteParts() {
        for (int b = 0; b < 256; b++) {
            boolean letter = b >= 'a' && b <= 'z' || b >= 'A' && b <= 'Z';
            TypoSuggester x = Checks.type(new TypoSuggester(), "m" + (char) b + "n");
            CHECKS.due("uses around byte " + b, x.learn(1), letter ? 1 : 2);
            String joined = "m" + Character.toLowerCase((char) b) + "n";
            CHECKS.due("terms around byte " + b, Checks.allTerms(x), letter ? joined : "m n");
        }
    }

    private static void longRowsKeepTheirFirst24() {
        TypoSuggester x = new TypoSuggester();
        String first24 = "abcdefghijklmnopqrstuvwx";
        String text = first24 + " " + first24 + "y " + first24.toUpperCase(Locale.ROOT) + "YZabc!" + "b";
        CHECKS.due("learn", Checks.type(x, text).learn(2), 4);
        CHECKS.due("terms", Checks.allTerms(x), first24 + " b");
        CHECKS.due("weight", weightOf(x, first24), 6);
        CHECKS.due("a tape of one row", Checks.type(x, "q".repeat(400)).learn(1), 1);
        CHECKS.due("terms", Checks.allTerms(x), first24 + " b " + "q".repeat(24));
    }

    private static void weightsGrowUpToTheGreatest() {
        TypoSuggester x = Checks.withTerms("cat", 999999999999L, "dog", 1000000000000L, "emu", 999999000000L);
        CHECKS.due("learn", Checks.type(x, "cat dog emu cat dog").learn(1000000), 5);
        CHECKS.due("weight of cat", weightOf(x, "cat"), 1000000000000L);
        CHECKS.due("weight of dog", weightOf(x, "dog"), 1000000000000L);
        CHECKS.due("weight of emu", weightOf(x, "emu"), 1000000000000L);
    }

    private static void weightLimits() {
        TypoSuggester x = Checks.type(new TypoSuggester(), "cat");
        CHECKS.due("learn(-1)", x.learn(-1), NONE);
        CHECKS.due("learn(least)", x.learn(Integer.MIN_VALUE), NONE);
        CHECKS.due("learn(1000001)", x.learn(1000001), NONE);
        CHECKS.due("learn(greatest)", x.learn(Integer.MAX_VALUE), NONE);
        CHECKS.due("terms", x.terms(), 0);
        CHECKS.due("learn(0) of the tape that stayed", x.learn(0), 1);
        CHECKS.due("weight", weightOf(x, "cat"), 0);
        CHECKS.due("learn(1000000)", Checks.type(x, "cat").learn(1000000), 1);
        CHECKS.due("weight", weightOf(x, "cat"), 1000000);
        CHECKS.due("learn(0)", Checks.type(x, "cat").learn(0), 1);
        CHECKS.due("weight", weightOf(x, "cat"), 1000000);
    }

    /** All of it within the 512 calls for which an object is used. */
    private static void noRoomForOneTermMore() {
        TypoSuggester x = new TypoSuggester();
        StringBuilder text = new StringBuilder();
        int made = 0;
        for (int i = 0; made < 600; i++) {
            text.append(i < 26 ? "" : String.valueOf((char) ('a' + i / 26 - 1)));
            text.append((char) ('a' + i % 26)).append(' ');
            made++;
            if (text.length() > 396 || made == 600) {
                Checks.type(x, text.toString()).learn(1);
                text.setLength(0);
            }
        }
        CHECKS.due("terms", x.terms(), 600);
        CHECKS.due("learn when full", Checks.type(x, "a zzz bb zzy c").learn(4), 3);
        CHECKS.due("terms", x.terms(), 600);
        CHECKS.due("weight of one there", weightOf(x, "bb"), 5);
        CHECKS.due("weight of one not taken in", weightOf(x, "zzz"), NONE);
        CHECKS.due("set of a new one", Checks.type(x, "zzz").set(1), TypoSuggester.FULL);
        CHECKS.due("set of no weight", Checks.type(x, "zzz").set(-1), NONE);
        CHECKS.due("set of no term", Checks.type(x, "Zz").set(1), NONE);
        CHECKS.due("set of one there", Checks.type(x, "bb").set(9), 0);
        CHECKS.due("drop", Checks.type(x, "bb").drop(), 9);
        CHECKS.due("learn with room for one", Checks.type(x, "zzz zzy zzz").learn(4), 2);
        CHECKS.due("weight of the one", weightOf(x, "zzz"), 8);
        CHECKS.due("terms", x.terms(), 600);
    }
}
