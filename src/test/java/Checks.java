/** Counts the answers of one test that are not due, and prints them. */
final class Checks {
    private final String test;
    private int calls = 0;
    private int wrong = 0;

    Checks(String test) {
        this.test = test;
    }

    void due(String call, long got, long want) {
        calls++;
        if (got != want) {
            wrong++;
            System.out.println(test + ": " + call + " answered " + got + ", due is " + want);
        }
    }

    void due(String call, String got, String want) {
        calls++;
        if (!got.equals(want)) {
            wrong++;
            System.out.println(test + ": " + call + " answered '" + got + "', due is '" + want + "'");
        }
    }

    boolean allDue() {
        return wrong == 0;
    }

    void end() {
        System.out.println(test + ": " + calls + " answers, " + wrong + " not as due");
        if (wrong != 0) {
            System.exit(1);
        }
    }

    /** Brings a text onto an empty tape; the fed bytes that are too many are cut off again. */
    static TypoSuggester type(TypoSuggester x, String text) {
        for (int i = 0; i < text.length(); i += 4) {
            x.feed(fourBytes(text, i));
        }
        x.cut(text.length());
        return x;
    }

    static int fourBytes(String text, int from) {
        int v = 0;
        for (int i = from; i < from + 4; i++) {
            v = v << 8 | (i < text.length() ? text.charAt(i) & 255 : ' ');
        }
        return v;
    }

    static TypoSuggester withTerms(Object... termsAndWeights) {
        TypoSuggester x = new TypoSuggester();
        for (int i = 0; i < termsAndWeights.length; i += 2) {
            type(x, (String) termsAndWeights[i]).set(((Number) termsAndWeights[i + 1]).longValue());
        }
        return x;
    }

    /** How many bytes the tape has; it is as before behind this. */
    static int tapeSize(TypoSuggester x) {
        int size = x.feed(0);
        if (size == TypoSuggester.FULL) {
            return size;
        }
        x.cut(size - 4);
        return size - 4;
    }

    static String allTerms(TypoSuggester x) {
        StringBuilder all = new StringBuilder();
        for (int i = 0; x.term(i, 0) != TypoSuggester.NONE; i++) {
            all.append(i == 0 ? "" : " ");
            for (int j = 0; x.term(i, j) != TypoSuggester.NONE; j++) {
                all.append((char) x.term(i, j));
            }
        }
        return all.toString();
    }

    /** The RESULT as 'term:weight:nearness' of each. */
    static String allFound(TypoSuggester x) {
        StringBuilder all = new StringBuilder();
        for (int i = 0; i < x.found(); i++) {
            all.append(i == 0 ? "" : " ");
            for (int j = 0; j < x.of(i, 0); j++) {
                all.append((char) x.letter(i, j));
            }
            all.append(':').append(x.of(i, 1)).append(':').append(x.of(i, 2));
        }
        return all.toString();
    }
}
