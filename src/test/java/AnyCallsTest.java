import java.util.Random;

/** Any calls with any arguments: none throws, and what they leave stays within its bounds. */
public final class AnyCallsTest {
    private static final int[] EDGES = {Integer.MIN_VALUE, Integer.MIN_VALUE + 1, -100, -3, -2, -1, 21, 39, 40, 41, 60, 61,
        99, 100, 159, 160, 161, 1 << 16, Integer.MAX_VALUE - 1, Integer.MAX_VALUE};
    private static final Random DRAWS = new Random(512);
    private static final String[] ITEMS = {"citizen 4 2 9 20", "citizen 5 3 0 4", "beggar 9 3", "beggar 2 2", "wear 0 99",
        "hides 0", "comes 0", "post 0", "citizen 9", "", "wear 0"};

    public static void main(String[] args) {
        for (int run = 0; run < 600; run++) {
            BeggarsChoose x = new BeggarsChoose();
            for (int call = 0; call < 512; call++) {
                any(x);
            }
            bounds(x);
        }
        Due.end();
    }

    private static int number() {
        return DRAWS.nextInt(6) == 0 ? EDGES[DRAWS.nextInt(EDGES.length)] : DRAWS.nextInt(9);
    }

    private static void any(BeggarsChoose x) {
        int a = number();
        int b = number();
        int c = number();
        int d = number();
        switch (DRAWS.nextInt(37)) {
            case 0: x.row(a, b, c); break;
            case 1: x.set(a, b, DRAWS.nextLong()); break;
            case 2: x.copy(a, b, c, d, number()); break;
            case 3: x.element(a, b); break;
            case 4: x.show(a, b); break;
            case 5: x.holds(a); break;
            case 6: x.says(a, b); break;
            case 7: x.citizen(a, b, c, d); break;
            case 8: x.beggar(a, b); break;
            case 9: x.tell(a, b, c); break;
            case 10: x.post(a, DRAWS.nextBoolean()); break;
            case 11: x.citizenOf(a, b); break;
            case 12: x.beggarOf(a, b); break;
            case 13: text(x); break;
            case 14: x.fault(); break;
            case 15: x.picks(a); break;
            case 16: x.kept(); break;
            case 17: x.picked(a, b); break;
            case 18: x.wear(a, b); break;
            case 19: x.unkept(a, b); break;
            case 20: x.parting(a); break;
            case 21: x.rests(a); break;
            case 22: x.shun(a, b); break;
            case 23: x.rules(a, b); break;
            case 24: x.hide(); break;
            case 25: x.lose(a); break;
            case 26: x.best(); break;
            case 27: x.judge(a, b); break;
            case 28: x.mornings(a); break;
            case 29: x.winters(a); break;
            case 30: x.seed(a); break;
            case 31: x.act(a, b, c); break;
            case 32: x.trace(a); break;
            case 33: x.image(); break;
            case 34: x.restore(); break;
            case 35: x.status(a); break;
            default: x.city(a); break;
        }
    }

    private static void text(BeggarsChoose x) {
        StringBuilder text = new StringBuilder(ITEMS[DRAWS.nextInt(ITEMS.length)]);
        while (DRAWS.nextInt(3) > 0 && text.length() < 140) {
            text.append(';').append(ITEMS[DRAWS.nextInt(ITEMS.length)]);
        }
        Due.write(x, 0, DRAWS.nextInt(4), text.toString());
        int answer = x.city(0);
        Due.is("a fault, or none", answer == -6 ? 1 : 0, x.fault() >= 0 ? 1 : 0);
    }

    private static void bounds(BeggarsChoose x) {
        within("citizens", x.status(0), 0, 6);
        within("beggars", x.status(1), 0, 6);
        for (int c = 0; c < x.status(0); c++) {
            int[] most = {6, 9, 99, 20, 99, 9, 1, 30};
            for (int what = 0; what < most.length; what++) {
                within("citizenOf what " + what, x.citizenOf(c, what), 0, most[what]);
            }
        }
        for (int b = 0; b < x.status(1); b++) {
            within("need", x.beggarOf(b, 0), 1, 9);
            within("rule", x.beggarOf(b, 1), 0, 4);
            within("last", x.beggarOf(b, 2), -1, x.status(0) - 1);
            within("hunger", x.beggarOf(b, 3), 0, 99);
        }
    }

    private static void within(String what, int got, int least, int most) {
        Due.is(what + " " + got + " from " + least + " to " + most, got >= least && got <= most ? 1 : 0, 1);
    }
}
