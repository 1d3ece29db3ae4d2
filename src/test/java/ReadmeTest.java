import java.io.IOException;
import java.nio.file.Files;
import java.nio.file.Path;

/** The example of README.md, run from the project's folder: its calls, and the answers told there. */
public final class ReadmeTest {
    private static final Checks CHECKS = new Checks("ReadmeTest");
    private static final StringBuilder RUN = new StringBuilder();

    public static void main(String[] args) throws IOException {
        runExample();
        CHECKS.due("the example of README.md", exampleOf(Files.readString(Path.of("README.md"))), RUN.toString());
        CHECKS.end();
    }

    private static void runs(String call, long answer) {
        RUN.append("x.").append(call).append("; // ").append(answer).append('\n');
    }

    private static void runExample() {
        TypoSuggester x = new TypoSuggester();
        runs("feed('C' << 24 | 'a' << 16 | 't' << 8 | 's')", x.feed('C' << 24 | 'a' << 16 | 't' << 8 | 's'));
        runs("feed(',' << 24 | ' ' << 16 | 'c' << 8 | 'a')", x.feed(',' << 24 | ' ' << 16 | 'c' << 8 | 'a'));
        runs("feed('t' << 24 | 's' << 16)", x.feed('t' << 24 | 's' << 16));
        runs("learn(2)", x.learn(2));
        runs("feed('c' << 24 | 'a' << 16 | 'b' << 8 | 'l')", x.feed('c' << 24 | 'a' << 16 | 'b' << 8 | 'l'));
        runs("feed('e' << 24)", x.feed('e' << 24));
        runs("cut(5)", x.cut(5));
        runs("set(9)", x.set(9));
        runs("feed('c' << 24 | 'o' << 16 | 'b' << 8)", x.feed('c' << 24 | 'o' << 16 | 'b' << 8));
        runs("cut(3)", x.cut(3));
        runs("ask(10, 1)", x.ask(10, 1));
        runs("of(0, 0)", x.of(0, 0));
        runs("of(0, 1)", x.of(0, 1));
        runs("of(0, 2)", x.of(0, 2));
        runs("letter(0, 4)", x.letter(0, 4));
        runs("feed('c' << 24 | 'a' << 16)", x.feed('c' << 24 | 'a' << 16));
        runs("cut(2)", x.cut(2));
        runs("best()", x.best());
        runs("terms()", x.terms());
        runs("prefixes()", x.prefixes());
    }

    /** Each line of the example that has an answer, as runs writes it: the call, and the answer's number. */
    private static String exampleOf(String readme) {
        StringBuilder example = new StringBuilder();
        for (String line : readme.lines().toList()) {
            int comment = line.indexOf("// ");
            if (line.startsWith("x.") && comment > 0) {
                String answer = line.substring(comment).split(":")[0];
                example.append(line.substring(0, comment).strip()).append(' ').append(answer).append('\n');
            }
        }
        return example.toString();
    }
}
