/** Promises 8 to 14: queries, and the RESULT that ask leaves. */
public final class AskTest {
    private static final int NONE = TypoSuggester.NONE;
    private static final String LONGEST = "abcdefghijklmnopqrstuvwx";
    private static final Checks CHECKS = new Checks("AskTest");

    public static void main(String[] args) {
        askFindsByWeightThenOrder();
        askFindsByEveryChange();
        askTakesEmptyAndLongestQueries();
        askHoldsToItsLimits();
        askRefuses();
        nearCounts();
        nearRefuses();
        bestTellsTheGreatest();
        rankCountsThoseBefore();
        resultStaysAsFound();
        resultRefuses();
        CHECKS.end();
    }

    private static String asked(TypoSuggester x, String query, int k, int d) {
        int answer = Checks.type(x, query).ask(k, d);
        return answer == x.found() ? Checks.allFound(x) : "ask " + answer + ", found " + x.found();
    }

    private static void askFindsByWeightThenOrder() {
        TypoSuggester x = Checks.withTerms("cab", 7, "cat", 7, "cable", 9, "car", 7, "dog", 50, "cad", 8);
        CHECKS.due("ca, 50, 0", asked(x, "ca", 50, 0), "cable:9:0 cad:8:0 cab:7:0 car:7:0 cat:7:0");
        CHECKS.due("ca, 4, 0", asked(x, "ca", 4, 0), "cable:9:0 cad:8:0 cab:7:0 car:7:0");
        CHECKS.due("ca, 3, 0", asked(x, "ca", 3, 0), "cable:9:0 cad:8:0 cab:7:0");
        CHECKS.due("ca, 1, 0", asked(x, "ca", 1, 0), "cable:9:0");
        CHECKS.due("cat, 2, 1", asked(x, "cat", 2, 1), "cable:9:1 cad:8:1");
        CHECKS.due("cat, 50, 0", asked(x, "cat", 50, 0), "cat:7:0");
        CHECKS.due("xyz, 5, 2", asked(x, "xyz", 5, 2), "");
        CHECKS.due("found", x.found(), 0);
    }

    private static void askFindsByEveryChange() {
        TypoSuggester x = Checks.withTerms("garden", 1);
        CHECKS.due("the same", asked(x, "gard", 1, 0), "garden:1:0");
        CHECKS.due("whole", asked(x, "garden", 1, 0), "garden:1:0");
        CHECKS.due("one left out", asked(x, "gaden", 1, 1), "garden:1:1");
        CHECKS.due("one put in", asked(x, "gaxrd", 1, 1), "garden:1:1");
        CHECKS.due("one in place of another", asked(x, "gxrd", 1, 1), "garden:1:1");
        CHECKS.due("one behind", asked(x, "gardens", 1, 1), "garden:1:1");
        CHECKS.due("two behind, within 1", asked(x, "gardener", 1, 1), "");
        CHECKS.due("two behind", asked(x, "gardener", 1, 2), "garden:1:2");
        CHECKS.due("three behind", asked(x, "gardeners", 1, 2), "");
        CHECKS.due("the first left out", asked(x, "arde", 1, 1), "garden:1:1");
        CHECKS.due("two that change places", asked(x, "agrd", 1, 1), "");
        CHECKS.due("two that change places, within 2", asked(x, "agrd", 1, 2), "garden:1:2");
        CHECKS.due("nearer than asked for", asked(x, "gard", 1, 2), "garden:1:0");
        CHECKS.due("two others", asked(x, "xaxden", 1, 2), "garden:1:2");
        CHECKS.due("two others, within 1", asked(x, "xaxden", 1, 1), "");
        CHECKS.due("no prefix but none", asked(x, "xy", 1, 2), "garden:1:2");
    }

    private static void askTakesEmptyAndLongestQueries() {
        TypoSuggester x = Checks.withTerms("b", 1, LONGEST, 2, "zz", 0);
        CHECKS.due("'', 50, 0", asked(x, "", 50, 0), LONGEST + ":2:0 b:1:0 zz:0:0");
        CHECKS.due("'', 50, 2", asked(x, "", 50, 2), LONGEST + ":2:0 b:1:0 zz:0:0");
        CHECKS.due("x, 50, 1", asked(x, "x", 50, 1), LONGEST + ":2:1 b:1:1 zz:0:1");
        CHECKS.due("longest, 50, 0", asked(x, LONGEST, 50, 0), LONGEST + ":2:0");
        CHECKS.due("longest less 2, 50, 2", asked(x, LONGEST.substring(2), 50, 2), LONGEST + ":2:2");
        CHECKS.due("longest less 2, 50, 1", asked(x, LONGEST.substring(2), 50, 1), "");
    }

    private static void askHoldsToItsLimits() {
        TypoSuggester x = new TypoSuggester();
        StringBuilder want = new StringBuilder();
        for (int i = 0; i < 60; i++) {
            String term = "q" + (char) ('a' + i / 26) + (char) ('a' + i % 26);
            Checks.type(x, term).set(i / 2);
        }
        for (int i = 29; i > 4; i--) {
            for (int j = 2 * i; j < 2 * i + 2; j++) {
                want.append(j == 58 ? "" : " ").append('q').append((char) ('a' + j / 26));
                want.append((char) ('a' + j % 26)).append(':').append(i).append(":0");
            }
        }
        CHECKS.due("q, 50, 0", asked(x, "q", 50, 0), want.toString());
        CHECKS.due("q, 49, 0", Checks.type(x, "q").ask(49, 0), 49);
        CHECKS.due("near", Checks.type(x, "q").near(0), 60);
    }

    private static void askRefuses() {
        TypoSuggester x = Checks.withTerms("cab", 7, "dog", 9);
        asked(x, "ca", 5, 0);
        int[][] wrong = {{0, 0}, {-1, 0}, {51, 0}, {1, -1}, {1, 3}, {Integer.MIN_VALUE, 1},
            {Integer.MAX_VALUE, 1}, {1, Integer.MIN_VALUE}, {1, Integer.MAX_VALUE}};
        for (int[] w : wrong) {
            CHECKS.due("ask(" + w[0] + ", " + w[1] + ")", Checks.type(x, "do").ask(w[0], w[1]), NONE);
        }
        String[] noQueries = {"Do", "d o", "do ", "do\u00ff", "d{", "d`", LONGEST + "y", " "};
        for (String query : noQueries) {
            CHECKS.due("ask of '" + query + "'", Checks.type(x, query).ask(5, 2), NONE);
        }
        CHECKS.due("the RESULT stays", Checks.allFound(x), "cab:7:0");
        CHECKS.due("ask(50, 2)", Checks.type(x, "do").ask(50, 2), 2);
    }

    private static void nearCounts() {
        TypoSuggester x = Checks.withTerms("cab", 7, "cat", 7, "cable", 9, "car", 7, "dog", 50);
        CHECKS.due("cat within 0", Checks.type(x, "cat").near(0), 1);
        CHECKS.due("cat within 1", Checks.type(x, "cat").near(1), 4);
        CHECKS.due("cog within 1", Checks.type(x, "cog").near(1), 1);
        CHECKS.due("cog within 2", Checks.type(x, "cog").near(2), 5);
        CHECKS.due("none within 0", x.near(0), 5);
        CHECKS.due("xx within 1", Checks.type(x, "xx").near(1), 0);
        CHECKS.due("xx within 2", Checks.type(x, "xx").near(2), 5);
        CHECKS.due("near leaves the RESULT", x.found(), 0);
    }

    private static void nearRefuses() {
        TypoSuggester x = Checks.withTerms("cab", 7);
        int[] wrong = {-1, 3, Integer.MIN_VALUE, Integer.MAX_VALUE};
        for (int d : wrong) {
            CHECKS.due("near(" + d + ")", Checks.type(x, "ca").near(d), NONE);
        }
        String[] noQueries = {"Ca", "c ", "ca\0", "c\u00e1", LONGEST + "y"};
        for (String query : noQueries) {
            CHECKS.due("near of '" + query + "'", Checks.type(x, query).near(2), NONE);
        }
        CHECKS.due("near of the longest", Checks.type(x, LONGEST).near(2), 0);
    }

    private static void bestTellsTheGreatest() {
        TypoSuggester x = new TypoSuggester();
        CHECKS.due("best without terms", x.best(), NONE);
        x = Checks.withTerms("ca", 1, "cab", 7, "cat", 1000000000000L, "cable", 9, "bzz", 70, "d", 0, LONGEST, 3);
        String[] begins = {"", "c", "ca", "cab", "cabl", "cable", "cables", "cat", "b", "d", "da", "cb", "e",
            "a", LONGEST, LONGEST + "y", "Ca", "c ", " "};
        long[] wants = {1000000000000L, 1000000000000L, 1000000000000L, 9, 9, 9, NONE, 1000000000000L, 70, 0,
            NONE, NONE, NONE, 3, 3, NONE, NONE, NONE, NONE};
        for (int i = 0; i < begins.length; i++) {
            CHECKS.due("best of '" + begins[i] + "'", Checks.type(x, begins[i]).best(), wants[i]);
        }
    }

    private static void rankCountsThoseBefore() {
        TypoSuggester x = Checks.withTerms("cab", 7, "cat", 7, "cable", 9, "car", 7, "dog", 50, "a", 0, "z", 7);
        String[] byRank = {"dog", "cable", "cab", "car", "cat", "z", "a"};
        for (int i = 0; i < byRank.length; i++) {
            CHECKS.due("rank of " + byRank[i], Checks.type(x, byRank[i]).rank(), i);
        }
        String[] others = {"", "ca", "cabs", "Cab", "cab ", LONGEST + "y"};
        for (String other : others) {
            CHECKS.due("rank of '" + other + "'", Checks.type(x, other).rank(), NONE);
        }
    }

    private static void resultStaysAsFound() {
        TypoSuggester x = Checks.withTerms("cab", 7, "cat", 8);
        String want = "cat:8:1 cab:7:1";
        CHECKS.due("cax, 5, 1", asked(x, "cax", 5, 1), want);
        Checks.type(x, "cat").set(1);
        CHECKS.due("after set", Checks.allFound(x), want);
        Checks.type(x, "cab cat aaa").learn(100);
        CHECKS.due("after learn", Checks.allFound(x), want);
        Checks.type(x, "cat").drop();
        Checks.type(x, "cab").drop();
        CHECKS.due("after drop", Checks.allFound(x), want);
        Checks.type(x, "cax").near(2);
        Checks.type(x, "c").best();
        CHECKS.due("after near and best", Checks.allFound(x), want);
        CHECKS.due("the next", asked(x, "a", 5, 0), "aaa:100:0");
    }

    private static void resultRefuses() {
        TypoSuggester x = new TypoSuggester();
        CHECKS.due("letter without ask", x.letter(0, 0), NONE);
        CHECKS.due("of without ask", x.of(0, 0), NONE);
        x = Checks.withTerms("cab", 7, "do", 8);
        CHECKS.due("found", x.ask(5, 0), 2);
        int[][] wrong = {{-1, 0}, {2, 0}, {0, 2}, {1, 3}, {0, -1}, {1, -1}, {50, 0}, {0, 24},
            {Integer.MAX_VALUE, 0}, {Integer.MIN_VALUE, 0}, {0, Integer.MAX_VALUE}, {0, Integer.MIN_VALUE}};
        for (int[] w : wrong) {
            CHECKS.due("letter(" + w[0] + ", " + w[1] + ")", x.letter(w[0], w[1]), NONE);
        }
        for (int what = 0; what < 3; what++) {
            CHECKS.due("of(-1, " + what + ")", x.of(-1, what), NONE);
            CHECKS.due("of(2, " + what + ")", x.of(2, what), NONE);
            CHECKS.due("of(greatest, " + what + ")", x.of(Integer.MAX_VALUE, what), NONE);
        }
        int[] noWhats = {-1, 3, Integer.MIN_VALUE, Integer.MAX_VALUE};
        for (int what : noWhats) {
            CHECKS.due("of(0, " + what + ")", x.of(0, what), NONE);
        }
        CHECKS.due("fewer are found", Checks.type(x, "c").ask(5, 0), 1);
        CHECKS.due("of a former RESULT", x.of(1, 1), NONE);
        CHECKS.due("letter of a former RESULT", x.letter(1, 0), NONE);
    }
}
