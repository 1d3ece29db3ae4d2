import java.util.ArrayList;
import java.util.List;
import java.util.Locale;
import java.util.TreeMap;
import java.util.TreeSet;

/** The document's words in their plainest form, with the Java library: what answers are due. */
final class Model {
    private static final int NONE = -1;
    private static final int FULL = -2;
    private static final long GREATEST = 1000000000000L;

    private record Found(String term, long weight, int nearness) { }

    private final TreeMap<String, Long> terms = new TreeMap<>();
    private String tape = "";
    private List<Found> result = new ArrayList<>();

    int feed(int v) {
        if (tape.length() + 4 > 400) {
            return FULL;
        }
        for (int i = 3; i >= 0; i--) {
            tape += (char) (v >>> 8 * i & 255);
        }
        return tape.length();
    }

    int cut(int n) {
        if (n < 0 || n > tape.length()) {
            return NONE;
        }
        int gone = tape.length() - n;
        tape = tape.substring(0, n);
        return gone;
    }

    int learn(int weight) {
        if (weight < 0 || weight > 1000000) {
            return NONE;
        }
        int taken = 0;
        for (String row : take().split("[^a-zA-Z]+")) {
            String term = row.substring(0, Math.min(24, row.length())).toLowerCase(Locale.ROOT);
            if (!term.isEmpty() && (terms.containsKey(term) || hasRoom(term))) {
                terms.put(term, Math.min(GREATEST, terms.getOrDefault(term, 0L) + weight));
                taken++;
            }
        }
        return taken;
    }

    int set(long weight) {
        String term = take();
        if (!term.matches("[a-z]{1,24}") || weight < 0 || weight > GREATEST) {
            return NONE;
        }
        if (!terms.containsKey(term) && !hasRoom(term)) {
            return FULL;
        }
        return terms.put(term, weight) == null ? 1 : 0;
    }

    long drop() {
        Long weight = terms.remove(take());
        return weight == null ? NONE : weight;
    }

    long weight() {
        return terms.getOrDefault(take(), (long) NONE);
    }

    int ask(int k, int d) {
        String query = take();
        if (!isQuery(query) || k < 1 || k > 50 || d < 0 || d > 2) {
            return NONE;
        }
        result = new ArrayList<>();
        terms.forEach((term, weight) -> {
            if (nearness(term, query) <= d) {
                result.add(new Found(term, weight, nearness(term, query)));
            }
        });
        result.sort((a, b) -> Long.compare(b.weight, a.weight));
        result = result.subList(0, Math.min(k, result.size()));
        return result.size();
    }

    int near(int d) {
        String query = take();
        if (!isQuery(query) || d < 0 || d > 2) {
            return NONE;
        }
        return (int) terms.keySet().stream().filter(term -> nearness(term, query) <= d).count();
    }

    long best() {
        String begin = take();
        return terms.keySet().stream().filter(term -> isQuery(begin) && term.startsWith(begin))
            .mapToLong(terms::get).max().orElse(NONE);
    }

    int rank() {
        String term = take();
        if (!terms.containsKey(term)) {
            return NONE;
        }
        long weight = terms.get(term);
        return (int) terms.keySet().stream().filter(other -> terms.get(other) > weight
            || terms.get(other) == weight && other.compareTo(term) < 0).count();
    }

    int found() {
        return result.size();
    }

    int letter(int i, int j) {
        return i < 0 || i >= result.size() ? NONE : letterOf(result.get(i).term, j);
    }

    long of(int i, int what) {
        if (i < 0 || i >= result.size() || what < 0 || what > 2) {
            return NONE;
        }
        Found found = result.get(i);
        return what == 0 ? found.term.length() : what == 1 ? found.weight : found.nearness;
    }

    int terms() {
        return terms.size();
    }

    int letters() {
        return terms.keySet().stream().mapToInt(String::length).sum();
    }

    int term(int i, int j) {
        return i < 0 || i >= terms.size() ? NONE : letterOf(new ArrayList<>(terms.keySet()).get(i), j);
    }

    int prefixes() {
        TreeSet<String> all = new TreeSet<>();
        for (String term : terms.keySet()) {
            for (int i = 0; i <= term.length(); i++) {
                all.add(term.substring(0, i));
            }
        }
        return all.size();
    }

    private String take() {
        String taken = tape;
        tape = "";
        return taken;
    }

    private boolean hasRoom(String term) {
        return terms.size() < 600 && letters() + term.length() <= 6000;
    }

    private static boolean isQuery(String text) {
        return text.matches("[a-z]{0,24}");
    }

    private static int letterOf(String term, int j) {
        return j < 0 || j >= term.length() ? NONE : term.charAt(j);
    }

    private static int nearness(String term, String query) {
        int least = Integer.MAX_VALUE;
        for (int i = 0; i <= term.length(); i++) {
            least = Math.min(least, distance(term.substring(0, i), query));
        }
        return least;
    }

    private static int distance(String a, String b) {
        int[][] table = new int[a.length() + 1][b.length() + 1];
        for (int i = 0; i <= a.length(); i++) {
            for (int j = 0; j <= b.length(); j++) {
                if (i == 0 || j == 0) {
                    table[i][j] = i + j;
                } else {
                    int other = a.charAt(i - 1) == b.charAt(j - 1) ? 0 : 1;
                    table[i][j] = Math.min(table[i - 1][j - 1] + other,
                        Math.min(table[i - 1][j], table[i][j - 1]) + 1);
                }
            }
        }
        return table[a.length()][b.length()];
    }
}
