import java.nio.file.Path;
import java.util.List;
import java.util.Map;
import java.util.Set;
import java.util.TreeMap;
import java.util.TreeSet;

/** Tests of boundary cases, each told by the promise's number and the document's sentence. */
final class Edges {
    /** Some of everything, and nothing full: what a refused call could have changed. */
    static final String FURNISHED =
        "set(2, 2, 1); set(3, 2, 2); set(4, 2, 3); lamp(1, 2, 3); lamp(8, 8, 2);"
        + "watcher(0, 11); watcher(8, 7); creep(0, 0, 10)";
    static final String FOUR_LAMPS = "lamp(0, 0, 1); lamp(11, 0, 2); lamp(0, 11, 3); lamp(11, 11, 4)";
    static final String SIX_WATCHERS =
        "watcher(0, 0); watcher(11, 0); watcher(0, 11); watcher(11, 11); watcher(5, 5); watcher(5, 5)";

    static final String FULL = FOUR_LAMPS + ";" + SIX_WATCHERS;
    static final String ALL_LIT = "lamp(5, 5, 12);";
    /** Places that are none, though 12 * y + x is a cell's number, once as it is, once as an int wraps it. */
    static final String[] NO_PLACES = {
        "12, 0", "12, -1", "-1, 1", "143, 0", "-12, 12", "0, 357913942", "-8, 357913942"};

    private final Due due = new Due("EdgesTest");
    private final Document document = new Document(Path.of("../shared/DOC.md"));
    private final Map<String, Set<String>> quotes = new TreeMap<>();
    private String sentence = "";
    private int testsOfSentence = 1;

    /** Beyond either side of what is allowed, just so and far; by less than an int's and a byte's width too. */
    static int[] beyond(int first, int last) {
        return new int[] {
            first - 1, last + 1, last - 256, first + 256, first + 65536,
            Integer.MIN_VALUE, Integer.MIN_VALUE + first, Integer.MAX_VALUE};
    }

    static String all(int kind) {
        StringBuilder calls = new StringBuilder();
        for (int y = 0; y < 12; y++) {
            calls.append(row(y, kind));
        }
        return calls.toString();
    }

    static String row(int y, int kind) {
        StringBuilder calls = new StringBuilder();
        for (int x = 0; x < 12; x++) {
            calls.append(set(x, y, kind));
        }
        return calls.toString();
    }

    static String column(int x, int kind) {
        StringBuilder calls = new StringBuilder();
        for (int y = 0; y < 12; y++) {
            calls.append(set(x, y, kind));
        }
        return calls.toString();
    }

    static String set(int x, int y, int kind) {
        return "set(" + x + ", " + y + ", " + kind + ");";
    }

    /** The tests that follow are of this sentence, which stands in the document to the letter. */
    void of(String section, String words) {
        endSentence();
        sentence = section + ", \"" + words + "\"";
        testsOfSentence = 0;
        quotes.computeIfAbsent(section, none -> new TreeSet<>()).add(words);
        due.is(sentence + " stands in the document", true, () -> document.says(section, words));
    }

    void answers(Object want, String call, String... before) {
        testsOfSentence++;
        due.is(told(call, before), want, () -> Run.after(before).answer(call));
    }

    /** As answers(), and the yard is afterwards as without this call. */
    void changesNothing(Object want, String call, String... before) {
        answers(want, call, before);
        for (int part = 0; part < Run.TELLINGS; part++) {
            int p = part;
            String without = Run.after(before).tell(part);
            due.is(told(call, before) + " changed nothing", without, () -> tellingsBehind(call, p, before));
        }
    }

    private static String tellingsBehind(String call, int part, String... before) {
        Run run = Run.after(before);
        run.answer(call);
        return run.tell(part);
    }

    void changeNothing(Object want, String callOfHash, int[] values, String... before) {
        for (int value : values) {
            changesNothing(want, callOfHash.replace("#", String.valueOf(value)), before);
        }
    }

    void refuseNoPlaces(String callOfHash, String... before) {
        for (String place : NO_PLACES) {
            changesNothing(Due.INDEX, callOfHash.replace("#", place), before);
        }
    }

    private String told(String call, String... before) {
        String way = String.join("; ", before).replaceAll(";[; ]*;", ";");
        String shown = way.length() > 300 ? way.substring(0, 150) + " .. " + way.substring(way.length() - 150) : way;
        return sentence + ": " + (shown.isEmpty() ? "" : "behind " + shown + ": ") + call;
    }

    private void endSentence() {
        int tests = testsOfSentence;
        due.is(sentence + " is tested", true, () -> tests > 0);
    }

    void end() {
        endSentence();
        List<String> promises = document.promises();
        due.is("the document's promises", 20, promises::size);
        for (String promise : promises) {
            for (String line : document.answersOf(promise)) {
                due.is(promise + ", \"" + line + "\" is quoted by a test", true, () -> isQuoted(promise, line));
            }
        }
        due.end();
    }

    private boolean isQuoted(String promise, String line) {
        Set<String> words = quotes.getOrDefault(promise, Set.of());
        return line.startsWith("Throws") ? words.contains(line) : words.stream().anyMatch(line::contains);
    }
}
