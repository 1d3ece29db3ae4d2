/** Counts the answers of one test that are not due, and prints them. */
final class Checks {
    private final String test;
    private int calls = 0;
    private int wrong = 0;
    private int sentences = 0;
    private String about = "";

    Checks(String test) {
        this.test = test;
    }

    /** What follows tests this sentence: where in the document it stands, and its words there. */
    void sentence(String where, String words) {
        sentences++;
        about = where + ", \"" + words + "\": ";
    }

    void due(String call, long got, long want) {
        calls++;
        if (got != want) {
            wrong++;
            System.out.println(test + ": " + about + call + " answered " + got + ", due is " + want);
        }
    }

    void due(String call, String got, String want) {
        calls++;
        if (!got.equals(want)) {
            wrong++;
            System.out.println(test + ": " + about + call + " answered '" + got + "', due is '" + want + "'");
        }
    }

    boolean allDue() {
        return wrong == 0;
    }

    void end() {
        String of = sentences == 0 ? "" : " to " + sentences + " sentences";
        System.out.println(test + ": " + calls + " answers" + of + ", " + wrong + " not as due");
        if (wrong != 0) {
            System.exit(1);
        }
    }

    /** Brings a text onto an empty tape; the fed bytes that are too many are cut off again. */
    static TypoSuggester type(TypoSuggester x, String text) {
        for (int i = 0; i < text.length(); i += 4) {
            x.feed(fourBytes(text, i));
        }
        x.cut(text.length());
        return x;
    }

    static int fourBytes(String text, int from) {
        int v = 0;
        for (int i = from; i < from + 4; i++) {
            v = v << 8 | (i < text.length() ? text.charAt(i) & 255 : ' ');
        }
        return v;
    }

    static TypoSuggester withTerms(Object... termsAndWeights) {
        TypoSuggester x = new TypoSuggester();
        for (int i = 0; i < termsAndWeights.length; i += 2) {
            type(x, (String) termsAndWeights[i]).set(((Number) termsAndWeights[i + 1]).longValue());
        }
        return x;
    }

    /**
     * An object with 600 terms, the first of a, b, .. z, aa, ab, .. wb, each of weight 1, made with
     * 450 of its 512 calls.
     */
    static TypoSuggester withAllTerms() {
        TypoSuggester x = new TypoSuggester();
        StringBuilder text = new StringBuilder();
        for (int i = 0; i < 600; i++) {
            text.append(numbered(i)).append(' ');
            if (text.length() > 397 || i == 599) {
                for (int from = 0; from < text.length(); from += 4) {
                    x.feed(fourBytes(text.toString(), from));
                }
                x.learn(1);
                text.setLength(0);
            }
        }
        return x;
    }

    /** Term i of a, b, .. z, aa, ab, .. zz. */
    static String numbered(int i) {
        String last = String.valueOf((char) ('a' + i % 26));
        return i < 26 ? last : (char) ('a' + i / 26 - 1) + last;
    }

    /** How many bytes the tape has; it is as before behind this. */
    static int tapeSize(TypoSuggester x) {
        int size = x.feed(0);
        if (size == TypoSuggester.FULL) {
            return size;
        }
        x.cut(size - 4);
        return size - 4;
    }

    static String allTerms(TypoSuggester x) {
        StringBuilder all = new StringBuilder();
        for (int i = 0; x.term(i, 0) != TypoSuggester.NONE; i++) {
            all.append(i == 0 ? "" : " ");
            for (int j = 0; x.term(i, j) != TypoSuggester.NONE; j++) {
                all.append((char) x.term(i, j));
            }
        }
        return all.toString();
    }

    /** The RESULT as 'term:weight:nearness' of each. */
    static String allFound(TypoSuggester x) {
        StringBuilder all = new StringBuilder();
        for (int i = 0; i < x.found(); i++) {
            all.append(i == 0 ? "" : " ");
            for (int j = 0; j < x.of(i, 0); j++) {
                all.append((char) x.letter(i, j));
            }
            all.append(':').append(x.of(i, 1)).append(':').append(x.of(i, 2));
        }
        return all.toString();
    }
}
