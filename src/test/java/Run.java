import java.util.ArrayList;
import java.util.List;
import java.util.StringJoiner;

/**
 * A new object with the calls that it got. Nothing is promised of an object beyond its 512th call, so a test that
 * calls one oftener is itself wrong.
 */
final class Run {
    static final int MOST_CALLS = 512;
    private static final int MOST_TOLD = 60;

    private final BeggarsChoose x = new BeggarsChoose();
    private final List<Object[]> calls = new ArrayList<>();

    private long noted(long answer, Object... nameAndArguments) {
        calls.add(nameAndArguments);
        if (calls.size() == MOST_CALLS + 1) {
            Due.is("more calls than are promised, the latest is " + latest(), calls.size(), MOST_CALLS);
        }
        return answer;
    }

    int count() {
        return calls.size();
    }

    /** How many calls are promised yet. */
    int left() {
        return MOST_CALLS - calls.size();
    }

    /** What the latest call answered is due to be so. */
    Run due(long got, long want) {
        Due.is(latest(), got, want, this);
        return this;
    }

    String latest() {
        return calls.isEmpty() ? "new BeggarsChoose()" : text(calls.get(calls.size() - 1));
    }

    /** The calls one behind the other, of a long run the latest. */
    String told() {
        StringJoiner told = new StringJoiner("; ");
        int first = Math.max(0, calls.size() - MOST_TOLD);
        if (first > 0) {
            told.add(".. " + first + " calls ..");
        }
        for (Object[] call : calls.subList(first, calls.size())) {
            told.add(text(call));
        }
        return told.toString();
    }

    private static String text(Object[] call) {
        StringJoiner text = new StringJoiner(", ", call[0] + "(", ")");
        for (int i = 1; i < call.length; i++) {
            text.add(String.valueOf(call[i]));
        }
        return text.toString();
    }

    int row(int s, int sort, int n) {
        return (int) noted(x.row(s, sort, n), "row", s, sort, n);
    }

    int set(int s, int i, long v) {
        return (int) noted(x.set(s, i, v), "set", s, i, v);
    }

    int copy(int p, int q, int i, int j, int n) {
        return (int) noted(x.copy(p, q, i, j, n), "copy", p, q, i, j, n);
    }

    long element(int s, int i) {
        return noted(x.element(s, i), "element", s, i);
    }

    int show(int s, int citizen) {
        return (int) noted(x.show(s, citizen), "show", s, citizen);
    }

    int holds(int s) {
        return (int) noted(x.holds(s), "holds", s);
    }

    int says(int s, int kind) {
        return (int) noted(x.says(s, kind), "says", s, kind);
    }

    int citizen(int kind, int a, int means, int heart) {
        return (int) noted(x.citizen(kind, a, means, heart), "citizen", kind, a, means, heart);
    }

    int beggar(int needs, int rule) {
        return (int) noted(x.beggar(needs, rule), "beggar", needs, rule);
    }

    int tell(int citizen, int what, int v) {
        return (int) noted(x.tell(citizen, what, v), "tell", citizen, what, v);
    }

    int post(int beggar, boolean is) {
        return (int) noted(x.post(beggar, is), "post", beggar, is);
    }

    int citizenOf(int citizen, int what) {
        return (int) noted(x.citizenOf(citizen, what), "citizenOf", citizen, what);
    }

    int beggarOf(int beggar, int what) {
        return (int) noted(x.beggarOf(beggar, what), "beggarOf", beggar, what);
    }

    int city(int s) {
        return (int) noted(x.city(s), "city", s);
    }

    int fault() {
        return (int) noted(x.fault(), "fault");
    }

    int picks(int beggar) {
        return (int) noted(x.picks(beggar), "picks", beggar);
    }

    int kept() {
        return (int) noted(x.kept(), "kept");
    }

    int picked(int citizen, int what) {
        return (int) noted(x.picked(citizen, what), "picked", citizen, what);
    }

    int wear(int citizen, int n) {
        return (int) noted(x.wear(citizen, n), "wear", citizen, n);
    }

    int unkept(int n, int what) {
        return (int) noted(x.unkept(n, what), "unkept", n, what);
    }

    int parting(int i) {
        return (int) noted(x.parting(i), "parting", i);
    }

    int rests(int beggar) {
        return (int) noted(x.rests(beggar), "rests", beggar);
    }

    int shun(int citizen, int what) {
        return (int) noted(x.shun(citizen, what), "shun", citizen, what);
    }

    int rules(int beggar, int citizen) {
        return (int) noted(x.rules(beggar, citizen), "rules", beggar, citizen);
    }

    int hide() {
        return (int) noted(x.hide(), "hide");
    }

    int lose(int citizen) {
        return (int) noted(x.lose(citizen), "lose", citizen);
    }

    int best() {
        return (int) noted(x.best(), "best");
    }

    int judge(int s, int n) {
        return (int) noted(x.judge(s, n), "judge", s, n);
    }

    int mornings(int n) {
        return (int) noted(x.mornings(n), "mornings", n);
    }

    int winters(int n) {
        return (int) noted(x.winters(n), "winters", n);
    }

    int seed(int v) {
        return (int) noted(x.seed(v), "seed", v);
    }

    int act(int citizen, int move, int x0) {
        return (int) noted(x.act(citizen, move, x0), "act", citizen, move, x0);
    }

    int trace(int i) {
        return (int) noted(x.trace(i), "trace", i);
    }

    int image() {
        return (int) noted(x.image(), "image");
    }

    int restore() {
        return (int) noted(x.restore(), "restore");
    }

    int status(int what) {
        return (int) noted(x.status(what), "status", what);
    }
}
