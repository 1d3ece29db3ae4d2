import java.util.Locale;
import java.util.Random;

/** Many runs of 512 mixed calls, each answered by the class as by the plain model. */
public final class ModelTest {
    private static final int RUNS = 400;
    private static final int CALLS = 512;
    private static final int[] WILD = {Integer.MIN_VALUE, Integer.MAX_VALUE, -2, 1000000, 1000001, 400, 51};
    private static final Checks CHECKS = new Checks("ModelTest");

    private final Random random;
    private final int alphabet;
    private final int longest;
    private final TypoSuggester x = new TypoSuggester();
    private final Model model = new Model();
    private int calls = 0;

    /** The seed is fixed, so the runs are the same each time. */
    private ModelTest(int run) {
        random = new Random(run);
        alphabet = 2 + random.nextInt(run % 3 == 0 ? 25 : 4);
        longest = 1 + random.nextInt(run % 5 == 0 ? 30 : 6);
    }

    public static void main(String[] args) {
        for (int run = 0; run < RUNS && CHECKS.allDue(); run++) {
            new ModelTest(run).play();
        }
        CHECKS.end();
    }

    private void play() {
        while (calls < CALLS && CHECKS.allDue()) {
            switch (random.nextInt(12)) {
                case 0: case 1: case 2: learnText(); break;
                case 3: case 4: case 5: type(word()); takeAsTerm(); break;
                case 6: case 7: case 8: type(word()); takeAsQuery(); break;
                case 9: lookAtResult(); break;
                case 10: lookAtTerms(); break;
                default: wildCall(); break;
            }
        }
    }

    private void due(String call, long got, long want) {
        calls++;
        CHECKS.due("call " + calls + ", " + call, got, want);
    }

    private String word() {
        StringBuilder word = new StringBuilder();
        for (int length = random.nextInt(longest + 1); word.length() < length; ) {
            word.append((char) ('a' + random.nextInt(alphabet)));
        }
        if (random.nextInt(40) == 0) {
            word.append((char) random.nextInt(256));
        }
        return word.toString();
    }

    private void type(String text) {
        for (int i = 0; i < text.length(); i += 4) {
            int v = Checks.fourBytes(text, i);
            due("feed(" + v + ")", x.feed(v), model.feed(v));
        }
        due("cut(" + text.length() + ")", x.cut(text.length()), model.cut(text.length()));
    }

    private void learnText() {
        StringBuilder text = new StringBuilder();
        for (int words = random.nextInt(12); words > 0; words--) {
            String word = word();
            text.append(random.nextBoolean() ? word : word.toUpperCase(Locale.ROOT));
            text.append(random.nextInt(8) == 0 ? (char) random.nextInt(256) : ' ');
        }
        type(text.toString());
        int weight = random.nextInt(9) == 0 ? WILD[random.nextInt(WILD.length)] : random.nextInt(5);
        due("learn(" + weight + ")", x.learn(weight), model.learn(weight));
    }

    private long someWeight() {
        switch (random.nextInt(10)) {
            case 0: return 1000000000000L - random.nextInt(2);
            case 1: return random.nextBoolean() ? -1 : 1000000000001L;
            default: return random.nextInt(8);
        }
    }

    private void takeAsTerm() {
        switch (random.nextInt(8)) {
            case 0: due("drop()", x.drop(), model.drop()); break;
            case 1: due("weight()", x.weight(), model.weight()); break;
            case 2: due("rank()", x.rank(), model.rank()); break;
            default:
                long weight = someWeight();
                due("set(" + weight + ")", x.set(weight), model.set(weight));
        }
    }

    private void takeAsQuery() {
        int k = random.nextInt(4) == 0 ? random.nextInt(53) - 1 : 1 + random.nextInt(6);
        int d = random.nextInt(12) == 0 ? random.nextInt(6) - 2 : random.nextInt(3);
        switch (random.nextInt(5)) {
            case 0: due("near(" + d + ")", x.near(d), model.near(d)); break;
            case 1: due("best()", x.best(), model.best()); break;
            default: due("ask(" + k + ", " + d + ")", x.ask(k, d), model.ask(k, d));
        }
    }

    private void lookAtResult() {
        due("found()", x.found(), model.found());
        for (int look = 0; look < 8; look++) {
            int i = random.nextInt(model.found() + 2) - random.nextInt(2);
            int j = random.nextInt(longest + 2) - 1;
            int what = random.nextInt(5) - 1;
            due("letter(" + i + ", " + j + ")", x.letter(i, j), model.letter(i, j));
            due("of(" + i + ", " + what + ")", x.of(i, what), model.of(i, what));
        }
    }

    private void lookAtTerms() {
        due("terms()", x.terms(), model.terms());
        due("letters()", x.letters(), model.letters());
        due("prefixes()", x.prefixes(), model.prefixes());
        for (int look = 0; look < 8; look++) {
            int i = random.nextInt(model.terms() + 2) - random.nextInt(2);
            int j = random.nextInt(longest + 2) - 1;
            due("term(" + i + ", " + j + ")", x.term(i, j), model.term(i, j));
        }
    }

    private void wildCall() {
        int a = WILD[random.nextInt(WILD.length)];
        int b = WILD[random.nextInt(WILD.length)];
        switch (random.nextInt(8)) {
            case 0: due("cut(" + a + ")", x.cut(a), model.cut(a)); break;
            case 1: due("feed(" + a + ")", x.feed(a), model.feed(a)); break;
            case 2: due("letter(" + a + ", " + b + ")", x.letter(a, b), model.letter(a, b)); break;
            case 3: due("of(" + a + ", " + b + ")", x.of(a, b), model.of(a, b)); break;
            case 4: due("term(" + a + ", " + b + ")", x.term(a, b), model.term(a, b)); break;
            case 5: due("ask(" + a + ", " + b + ")", x.ask(a, b), model.ask(a, b)); break;
            case 6: due("near(" + a + ")", x.near(a), model.near(a)); break;
            default: due("set(" + Long.MIN_VALUE + ")", x.set(Long.MIN_VALUE), model.set(Long.MIN_VALUE));
        }
    }
}
