import java.util.Random;

/** Runs of calls by draws: each answer is the one that the document, written once more in Model, asks for. */
public final class ModelTest {
    private static final int RUNS = 1500;
    private static final int[] FAR = {Integer.MIN_VALUE, Integer.MIN_VALUE + 1, -101, -100, -3, -2, Integer.MAX_VALUE - 1,
        Integer.MAX_VALUE, 1 << 16, 255, 256};
    private static final String[] BROKEN = {"", " ", ";", ";;", "citize", "Citizen 0", "beggar", "comet 0", "hides", "wear 0",
        "citizen 0 0 0 0 ", "post  0", "wear 0 100", "hides 000", "beggar 1 4x", "citizen 1 2 3", "citizen 1 2 3 "};

    private final Random draws;
    private final Run x = new Run();
    private final Model m = new Model();

    private ModelTest(int seed) {
        draws = new Random(seed);
    }

    public static void main(String[] args) {
        for (int seed = 0; seed < RUNS; seed++) {
            new ModelTest(seed).play();
        }
        Due.end();
    }

    private void play() {
        boolean isLive = upTo(5) > 0;
        if (isLive) {
            people();
        }
        int share = upTo(2);
        while (x.left() > 0) {
            if (isLive && share > 0) {
                question();
            }
            if (x.left() > 0) {
                any(upTo(36));
            }
            if (upTo(20) == 0) {
                text();
            }
        }
    }

    private int upTo(int n) {
        return draws.nextInt(n + 1);
    }

    /** Mostly from least to most, now and then one beside an end, seldom one that is far. */
    private int about(int least, int most) {
        int kind = upTo(39);
        if (kind == 0) {
            return FAR[upTo(FAR.length - 1)];
        }
        if (kind < 4) {
            return least - 1;
        }
        if (kind < 7) {
            return most + 1;
        }
        if (kind < 10) {
            return most;
        }
        return least + upTo(most - least);
    }

    private void people() {
        int means = upTo(1) == 0 ? 99 : 1 + upTo(20);
        int heart = upTo(1) == 0 ? 20 : 1 + upTo(5);
        int citizens = upTo(6);
        for (int c = 0; c < citizens; c++) {
            addCitizen(upTo(6), upTo(9), upTo(means), upTo(heart));
            if (upTo(2) == 0) {
                addTold(c, 1, upTo(99));
            }
            if (upTo(4) == 0) {
                addTold(c, 0, 1);
            }
        }
        int need = 1 + upTo(8);
        int beggars = upTo(6);
        for (int b = 0; b < beggars; b++) {
            int n = 1 + upTo(need - 1);
            int rule = upTo(4);
            x.due(x.beggar(n, rule), m.beggar(n, rule));
            if (upTo(5) == 0) {
                x.due(x.post(b, true), m.post(b, true));
            }
        }
    }

    private void addCitizen(int kind, int a, int means, int heart) {
        x.due(x.citizen(kind, a, means, heart), m.citizen(kind, a, means, heart));
    }

    private void addTold(int citizen, int what, int v) {
        x.due(x.tell(citizen, what, v), m.tell(citizen, what, v));
    }

    private int shelf() {
        return upTo(3) > 0 ? upTo(2) : about(0, 7);
    }

    private int citizen() {
        return upTo(2) > 0 && x.left() > 1 ? upTo(Math.max(0, m.status(0) - 1)) : about(0, 5);
    }

    private int beggar() {
        return upTo(2) > 0 ? upTo(Math.max(0, m.status(1) - 1)) : about(0, 5);
    }

    private void text() {
        int s = shelf();
        int sort = upTo(3);
        String text = someText();
        if (s < 0 || s > 7 || text.length() + 4 > x.left()) {
            return;
        }
        x.due(x.row(s, sort, text.length()), m.row(s, sort, text.length()));
        for (int i = 0; i < text.length(); i++) {
            long v = text.charAt(i) + (sort == 3 && upTo(9) == 0 ? 1L << 32 : 0);
            x.due(x.set(s, i, v), m.set(s, i, v));
        }
        x.due(x.city(s), m.city(s));
        x.due(x.fault(), m.fault());
    }

    private String someText() {
        StringBuilder text = new StringBuilder(item());
        while (upTo(2) > 0 && text.length() < 100) {
            text.append(';').append(item());
        }
        if (upTo(3) == 0 && text.length() > 0) {
            text.setCharAt(upTo(text.length() - 1), " ;0129abcehimnoprstwyz".charAt(upTo(21)));
        }
        if (upTo(5) == 0) {
            text.setLength(upTo(text.length()));
        }
        return text.length() > 160 ? text.substring(0, 160) : text.toString();
    }

    private String item() {
        switch (upTo(12)) {
            case 0: return BROKEN[upTo(BROKEN.length - 1)];
            case 1: case 2: return "wear" + number(citizen()) + number(about(0, 99));
            case 3: case 4: return "hides" + number(citizen());
            case 5: case 6: return "comes" + number(citizen());
            case 7: case 8: return "post" + number(beggar());
            case 9: case 10: return "beggar" + number(about(1, 9)) + number(about(0, 4));
            default: return "citizen" + number(about(0, 6)) + number(about(0, 9)) + number(about(0, 99)) + number(about(0, 20));
        }
    }

    private String number(int n) {
        return (n >= 0 && n < 10 && upTo(5) == 0 ? " 0" : " ") + n;
    }

    private void question() {
        any(17 + upTo(12));
    }

    private void any(int call) {
        if (call < 9) {
            onShelves(call);
        } else if (call < 17) {
            onPeople(call);
        } else if (call < 30) {
            ofOutcome(call);
        } else {
            inTruth(call);
        }
    }

    private void onShelves(int call) {
        int s = shelf();
        int q = shelf();
        int i = about(0, upTo(1) == 0 ? 3 : 159);
        int j = about(0, 3);
        int n = about(0, upTo(1) == 0 ? 3 : 160);
        switch (call) {
            case 0: case 1: {
                int sort = about(0, 3);
                x.due(x.row(s, sort, n), m.row(s, sort, n));
                break;
            }
            case 2: case 3: {
                long v = upTo(1) == 0 ? draws.nextLong() : about(-1, 5);
                x.due(x.set(s, i, v), m.set(s, i, v));
                break;
            }
            case 4: x.due(x.copy(s, q, i, j, n), m.copy(s, q, i, j, n)); break;
            case 5: x.due(x.element(s, i), m.element(s, i)); break;
            case 6: {
                int c = upTo(4) == 0 ? -1 : citizen();
                x.due(x.show(s, c), m.show(s, c));
                break;
            }
            case 7: x.due(x.holds(s), m.holds(s)); break;
            default: {
                int kind = about(0, 6);
                x.due(x.says(s, kind), m.says(s, kind));
                break;
            }
        }
    }

    private void onPeople(int call) {
        int c = citizen();
        int b = beggar();
        switch (call) {
            case 9: addCitizen(about(0, 6), about(0, 9), about(0, 99), about(0, 20)); break;
            case 10: {
                int need = about(1, 9);
                int rule = about(0, 4);
                x.due(x.beggar(need, rule), m.beggar(need, rule));
                break;
            }
            case 11: case 12: {
                int what = about(0, 3);
                addTold(c, what, about(0, what == 0 ? 1 : what == 2 ? 20 : 99));
                break;
            }
            case 13: {
                boolean is = draws.nextBoolean();
                x.due(x.post(b, is), m.post(b, is));
                break;
            }
            case 14: {
                int what = about(0, 7);
                x.due(x.citizenOf(c, what), m.citizenOf(c, what));
                break;
            }
            case 15: {
                int what = about(0, 4);
                x.due(x.beggarOf(b, what), m.beggarOf(b, what));
                break;
            }
            default: {
                int s = shelf();
                x.due(x.city(s), m.city(s));
                break;
            }
        }
    }

    private void ofOutcome(int call) {
        int c = citizen();
        int b = beggar();
        int what = about(0, 1);
        int n = about(0, 40);
        switch (call) {
            case 17: x.due(x.picks(b), m.picks(b)); break;
            case 18: x.due(x.kept(), m.kept()); break;
            case 19: x.due(x.picked(c, what), m.picked(c, what)); break;
            case 20: x.due(x.wear(c, n), m.wear(c, n)); break;
            case 21: x.due(x.unkept(n, what), m.unkept(n, what)); break;
            case 22: parting(); break;
            case 23: {
                int of = upTo(3) == 0 ? -1 : b;
                x.due(x.rests(of), m.rests(of));
                break;
            }
            case 24: x.due(x.shun(c, what), m.shun(c, what)); break;
            case 25: x.due(x.rules(b, c), m.rules(b, c)); break;
            case 26: x.due(x.hide(), m.hide()); break;
            case 27: x.due(x.lose(c), m.lose(c)); break;
            case 28: x.due(x.best(), m.best()); break;
            default: judge(); break;
        }
    }

    /** The model tries all partings, so it isn't asked often. */
    private void parting() {
        int i = upTo(2) == 0 ? -1 : about(0, 5);
        if (upTo(2) == 0) {
            x.due(x.parting(i), m.parting(i));
        }
    }

    /** A morning that is told rightly up to a place by draws. */
    private void judge() {
        int s = shelf();
        int n = upTo(1) == 0 ? about(0, 6) : about(0, 41);
        if (s >= 0 && s < 8 && upTo(1) == 0 && x.left() > 20) {
            int sort = upTo(3);
            int size = upTo(2) == 0 ? 41 : 7;
            x.due(x.row(s, sort, size), m.row(s, sort, size));
            int told = 0;
            for (int b = 0; b < m.status(1); b++) {
                if (m.beggarOf(b, 4) == 0 && upTo(19) > 0) {
                    int pick = m.picks(b);
                    x.due(x.set(s, told, pick), m.set(s, told, pick));
                    told++;
                }
            }
            n = upTo(2) > 0 ? told : n;
        }
        x.due(x.judge(s, n), m.judge(s, n));
    }

    private void inTruth(int call) {
        int n = upTo(1) == 0 ? about(1, 3) : about(1, 60);
        switch (call) {
            case 30: x.due(x.mornings(n), m.mornings(n)); break;
            case 31: x.due(x.winters(n), m.winters(n)); break;
            case 32: {
                int v = draws.nextInt();
                x.due(x.seed(v), m.seed(v));
                break;
            }
            case 33: {
                int c = citizen();
                int move = about(0, 2);
                int v = upTo(1) == 0 ? draws.nextInt() : about(-9, 9);
                x.due(x.act(c, move, v), m.act(c, move, v));
                for (int i = upTo(2); i < 12 && x.left() > 0; i += 3) {
                    x.due(x.trace(i), m.trace(i));
                }
                break;
            }
            case 34: x.due(x.trace(n), m.trace(n)); break;
            case 35: {
                boolean isTaken = upTo(1) == 0;
                x.due(isTaken ? x.image() : x.restore(), isTaken ? m.image() : m.restore());
                break;
            }
            default: {
                int what = about(0, 18);
                x.due(x.status(what), m.status(what));
                break;
            }
        }
    }
}
