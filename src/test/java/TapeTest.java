/** Promises 2 and 3: feed and cut; and which calls leave an empty tape. */
public final class TapeTest {
    private static final int NONE = TypoSuggester.NONE;
    private static final int FULL = TypoSuggester.FULL;
    private static final Checks CHECKS = new Checks("TapeTest");

    public static void main(String[] args) {
        feedCounts();
        feedPutsTheHighestByteFirst();
        feedIsFullBeyond400();
        cutKeepsTheFirst();
        cutRefuses();
        callsThatTakeTheTapeEmptyIt();
        callsThatDoNotTakeTheTapeLeaveIt();
        CHECKS.end();
    }

    private static void feedCounts() {
        TypoSuggester x = new TypoSuggester();
        CHECKS.due("first feed", x.feed(0), 4);
        CHECKS.due("second feed", x.feed(-1), 8);
        CHECKS.due("third feed", x.feed(Integer.MIN_VALUE), 12);
    }

    private static void feedPutsTheHighestByteFirst() {
        TypoSuggester x = new TypoSuggester();
        x.feed('w' << 24 | 'o' << 16 | 'r' << 8 | 'd');
        x.feed('s' << 24 | 'a' << 16 | 'p' << 8 | 'e');
        CHECKS.due("set", x.set(1), 1);
        CHECKS.due("the term", Checks.allTerms(x), "wordsape");
    }

    private static void feedIsFullBeyond400() {
        TypoSuggester x = new TypoSuggester();
        for (int i = 1; i <= 100; i++) {
            CHECKS.due("feed " + i, x.feed(0x61626364), 4 * i);
        }
        CHECKS.due("feed onto 400", x.feed(0x61626364), FULL);
        CHECKS.due("cut to 399", x.cut(399), 1);
        CHECKS.due("feed onto 399", x.feed(0x61626364), FULL);
        CHECKS.due("cut to 397", x.cut(397), 2);
        CHECKS.due("feed onto 397", x.feed(0x61626364), FULL);
        CHECKS.due("cut of what FULL left", x.cut(396), 1);
        CHECKS.due("feed onto 396", x.feed(0x61626364), 400);
    }

    private static void cutKeepsTheFirst() {
        TypoSuggester x = Checks.type(new TypoSuggester(), "abcdefgh");
        CHECKS.due("cut to all", x.cut(8), 0);
        CHECKS.due("cut to 3", x.cut(3), 5);
        x.feed('x' << 24 | 'y' << 16 | 'z' << 8 | 'z');
        x.set(1);
        CHECKS.due("the term", Checks.allTerms(x), "abcxyzz");
        x.feed(7);
        CHECKS.due("cut to 0", x.cut(0), 4);
        CHECKS.due("cut of nothing", x.cut(0), 0);
    }

    private static void cutRefuses() {
        TypoSuggester x = new TypoSuggester();
        CHECKS.due("cut(1) of none", x.cut(1), NONE);
        x.feed(0);
        CHECKS.due("cut(-1)", x.cut(-1), NONE);
        CHECKS.due("cut(least)", x.cut(Integer.MIN_VALUE), NONE);
        CHECKS.due("cut(5) of 4", x.cut(5), NONE);
        CHECKS.due("cut(greatest)", x.cut(Integer.MAX_VALUE), NONE);
        CHECKS.due("the tape stays", Checks.tapeSize(x), 4);
    }

    private static void callsThatTakeTheTapeEmptyIt() {
        String[] tapes = {"cab", "dog", "", "Cab", "a b", "abcdefghijklmnopqrstuvwxy"};
        for (String tape : tapes) {
            for (int call = 0; call < 13; call++) {
                TypoSuggester x = Checks.type(Checks.withTerms("cab", 3), tape);
                takeTape(x, call);
                CHECKS.due("size after call " + call + " on '" + tape + "'", Checks.tapeSize(x), 0);
            }
        }
    }

    private static void takeTape(TypoSuggester x, int call) {
        switch (call) {
            case 0: x.learn(1); break;
            case 1: x.set(5); break;
            case 2: x.set(-1); break;
            case 3: x.drop(); break;
            case 4: x.weight(); break;
            case 5: x.ask(1, 1); break;
            case 6: x.ask(0, 1); break;
            case 7: x.ask(51, 1); break;
            case 8: x.ask(1, 3); break;
            case 9: x.near(0); break;
            case 10: x.near(-1); break;
            case 11: x.best(); break;
            default: x.rank(); break;
        }
    }

    private static void callsThatDoNotTakeTheTapeLeaveIt() {
        TypoSuggester x = Checks.type(Checks.withTerms("cab", 3), "cab");
        x.found();
        x.letter(0, 0);
        x.of(0, 0);
        x.terms();
        x.letters();
        x.term(0, 0);
        x.prefixes();
        CHECKS.due("learn(-1)", x.learn(-1), NONE);
        CHECKS.due("learn(1000001)", x.learn(1000001), NONE);
        CHECKS.due("the tape stays", Checks.tapeSize(x), 3);
        CHECKS.due("and its bytes", x.weight(), 3);
    }
}
