import java.io.IOException;
import java.nio.file.Files;
import java.nio.file.Path;
import java.util.LinkedHashMap;
import java.util.Map;
import java.util.TreeSet;

/** The tests of the sentences that name an edge: each under its promises and its words, which must stand in the document. */
final class Edge {
    private static final int PROMISES = 37;
    private static final int MOST_TRACED = 20;
    private static final Path DOCUMENT = Path.of("../shared/DOC.md");
    private static final TreeSet<Integer> PROMISES_NAMED = new TreeSet<>();

    private static String document = "";
    private static int sentences = 0;

    /** Calls on a new object. */
    interface Calls {
        void on(Run x);
    }

    /** One call, with its answer. */
    interface Call {
        long on(Run x);
    }

    private Edge() {
    }

    static void open() throws IOException {
        document = smooth(Files.readString(DOCUMENT));
    }

    private static String smooth(String text) {
        return text.replaceAll("\\s+", " ");
    }

    /** The test of one sentence; the promises are numbers with blanks between them. */
    static void of(String promises, String sentence, Runnable test) {
        Due.under("Promise " + promises + " «" + sentence + "»");
        sentences++;
        for (String promise : promises.split(" ")) {
            PROMISES_NAMED.add(Integer.parseInt(promise));
        }
        Due.is("the document has these words", document.contains(smooth(sentence)) ? 1 : 0, 1);
        int before = Due.asked();
        test.run();
        Due.is("something is asked", Due.asked() > before ? 1 : 0, 1);
        Due.under("");
    }

    static void close() {
        for (int promise = 1; promise <= PROMISES; promise++) {
            Due.is("a sentence of promise " + promise + " is tested", PROMISES_NAMED.contains(promise) ? 1 : 0, 1);
        }
        System.out.println(sentences + " sentences");
        Due.end();
    }

    /** A new object after these calls. */
    static Run after(Calls calls) {
        Run x = new Run();
        calls.on(x);
        return x;
    }

    /**
     * All that can be seen of an object after these calls but the answers to questions, which hang on nothing else.
     * It takes more calls than one object may get, so each part is asked of an object of its own.
     */
    static Map<String, Long> seen(Calls calls) {
        Map<String, Long> seen = new LinkedHashMap<>();
        seeState(seen, "", after(calls));
        Run imaged = after(calls);
        see(seen, "image: ", imaged, imaged.restore());
        seeState(seen, "image: ", imaged);
        for (int s = 0; s < 8; s++) {
            Run x = after(calls);
            for (int i = 0; i < 161; i++) {
                see(seen, "", x, x.element(s, i));
            }
        }
        return seen;
    }

    private static void see(Map<String, Long> seen, String under, Run x, long answer) {
        seen.put(under + x.latest(), answer);
    }

    private static void seeState(Map<String, Long> seen, String under, Run x) {
        for (int what = 0; what <= 17; what++) {
            see(seen, under, x, x.status(what));
        }
        see(seen, under, x, x.fault());
        for (int s = 0; s < 8; s++) {
            see(seen, under, x, x.holds(s));
        }
        for (int i = 0; i <= MOST_TRACED; i++) {
            see(seen, under, x, x.trace(i));
        }
        int citizens = x.status(0);
        int beggars = x.status(1);
        for (int c = 0; c < citizens; c++) {
            for (int what = 0; what <= 7; what++) {
                see(seen, under, x, x.citizenOf(c, what));
            }
        }
        for (int b = 0; b < beggars; b++) {
            for (int what = 0; what <= 4; what++) {
                see(seen, under, x, x.beggarOf(b, what));
            }
        }
    }

    /** After these calls this one is due to be refused so, to be counted, and to leave all else as it was. */
    static void refused(Calls calls, Call call, int answer) {
        Map<String, Long> due = seen(calls);
        count(due, -answer % 10);
        leaves(calls, call, answer, due);
    }

    /** The same of a text, by which the FAULT is changed too. */
    static void faulty(Calls calls, Call call, int place) {
        Map<String, Long> due = seen(calls);
        count(due, 6);
        put(due, "fault()", place);
        leaves(calls, call, -6, due);
    }

    /** No TRACE then; no refusal, and all else is as it was. */
    static void untraced(Calls calls, Call call) {
        Map<String, Long> due = seen(calls);
        put(due, "status(8)", 0);
        for (int i = 0; i <= MOST_TRACED; i++) {
            put(due, "trace(" + i + ")", -1);
        }
        leaves(calls, call, 0, due);
    }

    /** A question: it is due to answer so and to change nothing. */
    static void unchanged(Calls calls, Call call, long answer) {
        leaves(calls, call, answer, seen(calls));
    }

    /** The call is due to answer so and to change nothing but what this one call sees, which is so then. */
    static void changes(Calls calls, Call call, long answer, String seen, long then) {
        Map<String, Long> due = seen(calls);
        Due.is("it is seen: " + seen, due.containsKey(seen) ? 1 : 0, 1);
        due.put(seen, then);
        leaves(calls, call, answer, due);
    }

    private static void count(Map<String, Long> due, int refusal) {
        String count = "status(" + (10 + refusal) + ")";
        put(due, count, due.getOrDefault(count, 0L) + 1);
        Due.is("it is counted", due.containsKey("image: " + count) ? 1 : 0, 1);
    }

    /** What THE IMAGE doesn't have is seen behind restore() as well. */
    private static void put(Map<String, Long> due, String key, long value) {
        long more = value - due.getOrDefault(key, 0L);
        due.put(key, value);
        due.merge("image: " + key, more, Long::sum);
    }

    private static void leaves(Calls calls, Call call, long answer, Map<String, Long> due) {
        Run x = after(calls);
        x.due(call.on(x), answer);
        String name = x.latest();
        Map<String, Long> seen = seen(y -> {
            calls.on(y);
            call.on(y);
        });
        Due.is("behind " + name + ": how much is seen", seen.size(), due.size());
        for (String key : due.keySet()) {
            Due.is("behind " + name + ": " + key, seen.getOrDefault(key, Long.MIN_VALUE), due.get(key));
        }
    }
}
