/** The boundary cases of the tape, and of promises 2 and 3. */
public final class BoundaryTapeTest {
    private static final int NONE = TypoSuggester.NONE;
    private static final int FULL = TypoSuggester.FULL;
    private static final String TOO_LONG = "abcdefghijklmnopqrstuvwxy";
    private static final Checks CHECKS = new Checks("BoundaryTapeTest");

    public static void main(String[] args) {
        theTapeHas400BytesAtMost();
        emptyAtFirst();
        emptyBehindEachCallThatTakesIt();
        alsoIfThatAnswersNone();
        alsoIfThatAnswersFull();
        butForLearn();
        callsThatDoNotTakeItLeaveIt();
        fourBytesTheHighestFirst();
        comeBehindTheTapeHowManyItHas();
        fullAndNoneComesThereWouldBeMoreThan400();
        theTapeKeepsItsFirstNBytesAlone();
        howManyWent();
        noneNIsBelow0();
        noneItHasFewer();
        CHECKS.end();
    }

    private static TypoSuggester withBytes(int many) {
        return Checks.type(new TypoSuggester(), "a".repeat(many));
    }

    private static void theTapeHas400BytesAtMost() {
        CHECKS.sentence("Terms", "THE TAPE has bytes, 400 at most");
        TypoSuggester x = new TypoSuggester();
        for (int i = 0; i < 99; i++) {
            x.feed(0x20202020);
        }
        CHECKS.due("the 100th feed", x.feed('c' << 24 | 'a' << 16 | 't' << 8 | 's'), 400);
        CHECKS.due("the 101st feed", x.feed('x' << 24), FULL);
        CHECKS.due("all 400 are a text", x.learn(3), 1);
        CHECKS.due("the last four", Checks.allTerms(x), "cats");
        x = withBytes(400);
        CHECKS.due("cut(400)", x.cut(400), 0);
        CHECKS.due("cut(401)", x.cut(401), NONE);
    }

    private static void emptyAtFirst() {
        CHECKS.sentence("Terms", "empty at first");
        CHECKS.due("first feed", new TypoSuggester().feed(0), 4);
        CHECKS.due("cut(0)", new TypoSuggester().cut(0), 0);
        CHECKS.due("cut(1)", new TypoSuggester().cut(1), NONE);
        CHECKS.due("learn(1)", new TypoSuggester().learn(1), 0);
    }

    /** All calls that take the tape, with arguments with which they do not refuse. */
    private static long take(TypoSuggester x, int call) {
        switch (call) {
            case 0: return x.learn(1);
            case 1: return x.set(5);
            case 2: return x.drop();
            case 3: return x.weight();
            case 4: return x.ask(5, 1);
            case 5: return x.near(1);
            case 6: return x.best();
            default: return x.rank();
        }
    }

    private static void emptyBehindEachCallThatTakesIt() {
        CHECKS.sentence("Terms", "empty at first, and behind each call that takes it");
        long[] wants = {1, 0, 3, 3, 1, 1, 3, 0};
        for (int call = 0; call < 8; call++) {
            TypoSuggester x = Checks.type(Checks.withTerms("cab", 3), "cab");
            CHECKS.due("call " + call, take(x, call), wants[call]);
            CHECKS.due("feed behind call " + call, x.feed(0), 4);
        }
        TypoSuggester x = Checks.type(Checks.withTerms("cab", 3), "dog");
        CHECKS.due("set of a new one", x.set(5), 1);
        CHECKS.due("feed behind it", x.feed(0), 4);
        x = Checks.type(Checks.withTerms("cab", 3), " ".repeat(400));
        CHECKS.due("learn of 400 bytes without a letter", x.learn(5), 0);
        CHECKS.due("feed behind it", x.feed(0), 4);
    }

    private static void alsoIfThatAnswersNone() {
        CHECKS.sentence("Terms", "also if that answers NONE");
        String[] tapes = {"Cab", "ca ", TOO_LONG, "a".repeat(400)};
        for (String tape : tapes) {
            for (int call = 1; call < 8; call++) {
                TypoSuggester x = Checks.type(Checks.withTerms("cab", 3), tape);
                CHECKS.due("call " + call + " on '" + tape + "'", take(x, call), NONE);
                CHECKS.due("feed behind call " + call + " on '" + tape + "'", x.feed(0), 4);
            }
        }
        for (int call = 0; call < 10; call++) {
            TypoSuggester x = Checks.type(Checks.withTerms("cab", 3), "cab");
            CHECKS.due("refused call " + call, refused(x, call), NONE);
            CHECKS.due("feed behind refused call " + call, x.feed(0), 4);
        }
        int[] callsOfAbsentTerms = {2, 3, 6, 7};
        for (int call : callsOfAbsentTerms) {
            TypoSuggester x = Checks.type(Checks.withTerms("cab", 3), "dog");
            CHECKS.due("call " + call + " of an absent term", take(x, call), NONE);
            CHECKS.due("feed behind call " + call + " of an absent term", x.feed(0), 4);
        }
    }

    /** Calls that refuse for an argument, whatever the tape. */
    private static long refused(TypoSuggester x, int call) {
        switch (call) {
            case 0: return x.set(-1);
            case 1: return x.set(1000000000001L);
            case 2: return x.ask(0, 1);
            case 3: return x.ask(51, 1);
            case 4: return x.ask(1, -1);
            case 5: return x.ask(1, 3);
            case 6: return x.near(-1);
            case 7: return x.near(3);
            case 8: return x.near(Integer.MIN_VALUE);
            default: return x.ask(Integer.MAX_VALUE, Integer.MAX_VALUE);
        }
    }

    private static void alsoIfThatAnswersFull() {
        CHECKS.sentence("Terms", "also if that answers NONE or FULL");
        TypoSuggester x = Checks.type(Checks.withAllTerms(), "zzz");
        CHECKS.due("set", x.set(1), FULL);
        CHECKS.due("feed behind it", x.feed(0), 4);
    }

    private static void butForLearn() {
        CHECKS.sentence("Terms", "but for learn()");
        TypoSuggester x = Checks.type(new TypoSuggester(), "cats dogs");
        CHECKS.due("learn(-1)", x.learn(-1), NONE);
        CHECKS.due("learn(1000001)", x.learn(1000001), NONE);
        CHECKS.due("feed behind them", x.feed(' ' << 24 | 'e' << 16 | 'l' << 8 | 'k'), 13);
        CHECKS.due("learn of all", x.learn(1), 3);
        CHECKS.due("the terms", Checks.allTerms(x), "cats dogs elk");
        CHECKS.due("feed behind it", x.feed(0), 4);
    }

    private static void callsThatDoNotTakeItLeaveIt() {
        CHECKS.sentence("Terms", "each call that takes it");
        TypoSuggester x = Checks.withTerms("cab", 3);
        x.ask(1, 0);
        Checks.type(x, "cab");
        CHECKS.due("found", x.found(), 1);
        CHECKS.due("letter", x.letter(0, 0), 'c');
        CHECKS.due("of", x.of(0, 1), 3);
        CHECKS.due("letter of none", x.letter(1, 0), NONE);
        CHECKS.due("of none", x.of(1, 0), NONE);
        CHECKS.due("terms", x.terms(), 1);
        CHECKS.due("letters", x.letters(), 3);
        CHECKS.due("term", x.term(0, 2), 'b');
        CHECKS.due("term of none", x.term(1, 0), NONE);
        CHECKS.due("prefixes", x.prefixes(), 4);
        CHECKS.due("weight of what stayed", x.weight(), 3);
    }

    private static void fourBytesTheHighestFirst() {
        CHECKS.sentence("Promise 2", "Four bytes, the highest first");
        TypoSuggester x = new TypoSuggester();
        x.feed(0x61626364);
        x.set(1);
        CHECKS.due("the bytes of 0x61626364", Checks.allTerms(x), "abcd");
        // With the sign bit in the highest byte, and in each lower one: none may spill over.
        int[] values = {0xe1626364, 0x61e26364, 0x6162e364, 0x616263e4, -1, Integer.MIN_VALUE};
        String[] wants = {"bcd", "a cd", "ab d", "abc", "", ""};
        for (int i = 0; i < values.length; i++) {
            x = new TypoSuggester();
            CHECKS.due("feed(" + values[i] + ")", x.feed(values[i]), 4);
            x.learn(1);
            CHECKS.due("the letters of " + values[i], Checks.allTerms(x), wants[i]);
        }
    }

    private static void comeBehindTheTapeHowManyItHas() {
        CHECKS.sentence("Promise 2", "come behind the tape: how many it has");
        for (int before = 0; before < 5; before++) {
            TypoSuggester x = withBytes(before);
            CHECKS.due("feed onto " + before, x.feed(0x62636465), before + 4);
            x.set(1);
            CHECKS.due("all of it", Checks.allTerms(x), "a".repeat(before) + "bcde");
        }
    }

    private static void fullAndNoneComesThereWouldBeMoreThan400() {
        CHECKS.sentence("Promise 2", "FULL, and none comes: there would be more than 400");
        CHECKS.due("feed onto 395", withBytes(395).feed(0), 399);
        CHECKS.due("feed onto 396", withBytes(396).feed(0), 400);
        for (int before = 397; before <= 400; before++) {
            TypoSuggester x = withBytes(before);
            CHECKS.due("feed onto " + before, x.feed(0x20622062), FULL);
            CHECKS.due("feed again onto " + before, x.feed(0x20622062), FULL);
            CHECKS.due("one more is none", x.cut(before + 1), NONE);
            CHECKS.due("as many as before", x.cut(before), 0);
            CHECKS.due("one use", x.learn(1), 1);
            CHECKS.due("the tape is empty then", x.feed(0), 4);
        }
    }

    private static void theTapeKeepsItsFirstNBytesAlone() {
        CHECKS.sentence("Promise 3", "The tape keeps its first n bytes alone");
        for (int n = 1; n <= 8; n++) {
            TypoSuggester x = Checks.type(new TypoSuggester(), "abcdefgh");
            x.cut(n);
            CHECKS.due("set behind cut(" + n + ")", x.set(1), 1);
            CHECKS.due("what cut(" + n + ") kept", Checks.allTerms(x), "abcdefgh".substring(0, n));
        }
        TypoSuggester x = Checks.type(new TypoSuggester(), "abcdefgh");
        x.cut(2);
        CHECKS.due("those that went do not come again", x.cut(3), NONE);
        CHECKS.due("feed behind those kept", x.feed(0x78797a7a), 6);
        x.set(1);
        CHECKS.due("the term", Checks.allTerms(x), "abxyzz");
    }

    private static void howManyWent() {
        CHECKS.sentence("Promise 3", "how many went");
        int[][] cases = {{0, 0}, {1, 0}, {1, 1}, {4, 3}, {8, 0}, {8, 8}, {400, 0}, {400, 399}, {400, 400}};
        for (int[] c : cases) {
            TypoSuggester x = withBytes(c[0]);
            CHECKS.due("cut(" + c[1] + ") of " + c[0], x.cut(c[1]), c[0] - c[1]);
            CHECKS.due("the same again", x.cut(c[1]), 0);
        }
    }

    private static void noneNIsBelow0() {
        CHECKS.sentence("Promise 3", "NONE: n is below 0");
        int[] ns = {-1, -4, -5, -256, Integer.MIN_VALUE, Integer.MIN_VALUE + 4};
        for (int n : ns) {
            TypoSuggester x = withBytes(4);
            CHECKS.due("cut(" + n + ")", x.cut(n), NONE);
            CHECKS.due("the tape stays", Checks.tapeSize(x), 4);
            CHECKS.due("cut(" + n + ") of an empty tape", new TypoSuggester().cut(n), NONE);
        }
    }

    private static void noneItHasFewer() {
        CHECKS.sentence("Promise 3", "NONE: n is below 0, or it has fewer");
        int[] sizes = {0, 1, 4, 399, 400};
        for (int size : sizes) {
            int[] ns = {size + 1, size + 256, Integer.MAX_VALUE};
            for (int n : ns) {
                TypoSuggester x = withBytes(size);
                CHECKS.due("cut(" + n + ") of " + size, x.cut(n), NONE);
                CHECKS.due("all stay", x.cut(0), size);
            }
        }
    }
}
