/** Promises 31 to 37: winters, seed, act, trace, image, restore, status. */
public final class TruthTest {
    public static void main(String[] args) {
        winters();
        act();
        noAct();
        image();
        status();
        Due.end();
    }

    private static void winters() {
        Run x = Due.city("citizen 0 0 9 5;citizen 0 0 9 7;citizen 0 0 9 9;wear 1 99;wear 2 45;hides 0;beggar 9 0;beggar 9 2");
        Due.is("seed(-7)", x.seed(-7), 1);
        Due.is("winters(0)", x.winters(0), -6);
        Due.is("winters(61)", x.winters(61), -6);
        Due.is("no draw", x.status(7), -7);
        int seed = -7;
        int hungry = 0;
        for (int winter = 0; winter < 4; winter++) {
            x.image();
            boolean[] hides = new boolean[3];
            for (int c = 0; c < 3; c++) {
                seed = seed * 1103515245 + 12345;
                hides[c] = (seed >>> 16) % 10 < x.citizenOf(c, 4) / 10;
            }
            int got = x.winters(1);
            Due.is("seed", x.status(7), seed);
            long[] after = state(x);
            x.restore();
            for (int c = 0; c < 3; c++) {
                x.tell(c, 0, hides[c] ? 1 : 0);
            }
            x.seed(seed);
            Due.is("a winter is a morning", got, x.mornings(1));
            Due.rows("and leaves the same", state(x), after);
            hungry += got;
        }
        Due.is("somebody went hungry", hungry > 0 ? 1 : 0, 1);
        Due.is("mornings", x.status(2), 4);
        Run y = Due.city("citizen 0 0 0 5;beggar 1 0;beggar 1 1");
        Due.is("together", y.winters(60), 120);
    }

    private static long[] state(Run x) {
        long[] state = new long[64];
        int at = 0;
        int citizens = x.status(0);
        int beggars = x.status(1);
        for (int i = 0; i < 6; i++) {
            for (int what = 0; what < 7 && i < citizens; what++) {
                state[at++] = x.citizenOf(i, what);
            }
            for (int what = 0; what < 5 && i < beggars; what++) {
                state[at++] = x.beggarOf(i, what);
            }
        }
        state[63] = x.status(7);
        state[62] = x.status(2);
        return state;
    }

    /** Every kind's moves, worked out by hand: m = 1 is the number, k = 3 its a, x = 10. */
    private static void act() {
        moves(0, 11, 22, 22 ^ 8, new int[] {10}, new int[] {11, 10}, new int[] {12, 11, 10, 10});
        moves(1, 11, 25, 25 ^ 8, new int[] {10}, new int[] {20, 11, 10}, new int[] {12, 20, 11, 10, 10});
        moves(2, 33, 66, 66 ^ 24, new int[] {30, 10}, new int[] {11, 30, 10}, new int[] {12, 11, 30, 10, 30, 10});
        moves(3, 36, 72, 72 ^ 27, new int[] {40, 30, 10}, new int[] {11, 40, 30, 10},
                new int[] {12, 11, 40, 30, 10, 40, 30, 10});
        moves(4, 10, 20, -(20 ^ 7), new int[] {51, 10}, new int[] {11, 51, 10}, new int[] {50, 12, 11, 51, 10, 51, 10});
        moves(5, 10, 20, -(20 ^ 7) ^ 5, new int[] {51, 10}, new int[] {11, 51, 10},
                new int[] {60, 50, 12, 11, 51, 10, 51, 10});
        moves(6, 72, 108, 108 ^ 54, new int[] {70, 40, 30, 10}, new int[] {71, 11, 70, 40, 30, 10},
                new int[] {12, 71, 11, 70, 40, 30, 10, 70, 40, 30, 10});
    }

    private static void moves(int kind, int looks, int gives, int shuts, int[] look, int[] give, int[] shut) {
        Run x = new Run();
        x.citizen(0, 0, 0, 0);
        x.citizen(kind, 3, 0, 0);
        move(x, kind, 0, looks, look);
        move(x, kind, 1, gives, give);
        move(x, kind, 2, shuts, shut);
    }

    private static void move(Run x, int kind, int move, int want, int[] trace) {
        Due.is("act of kind " + kind + " move " + move, x.act(1, move, 10), want);
        Due.is("bodies", x.status(8), trace.length);
        for (int i = 0; i < trace.length; i++) {
            Due.is("trace of kind " + kind + " move " + move + " at " + i, x.trace(i), trace[i]);
        }
        Due.is("behind the trace", x.trace(trace.length), -1);
        Due.is("ahead of it", x.trace(-1), -1);
    }

    private static void noAct() {
        Run x = new Run();
        x.citizen(2, 3, 0, 0);
        Due.is("wraps", x.act(0, 0, Integer.MAX_VALUE), Integer.MAX_VALUE * 3);
        Due.is("trace", x.trace(0), 30);
        Due.is("no such citizen", x.act(1, 0, 5), 0);
        Due.is("no trace", x.trace(0), -1);
        Due.is("no bodies", x.status(8), 0);
        x.act(0, 1, 5);
        Due.is("no such move", x.act(0, 3, 5), 0);
        Due.is("no trace", x.trace(0), -1);
        Due.is("no such move", x.act(0, -1, 5), 0);
        for (int what = 11; what <= 17; what++) {
            Due.is("no refusal", x.status(what), 0);
        }
        Due.is("none such", x.trace(Integer.MAX_VALUE), -1);
        Due.is("none such", x.trace(Integer.MIN_VALUE), -1);
    }

    private static void image() {
        Run x = new Run();
        Due.is("no image", x.restore(), -6);
        x.citizen(1, 2, 3, 4);
        x.beggar(5, 4);
        x.seed(77);
        Due.is("image", x.image(), 1);
        long[] before = state(x);
        x.citizen(0, 0, 99, 20);
        x.beggar(1, 1);
        x.tell(0, 0, 1);
        x.post(0, true);
        x.winters(5);
        x.mornings(5);
        x.show(0, 1);
        x.show(1, 0);
        x.row(2, 1, 4);
        x.set(2, 3, 9L);
        x.act(1, 1, 4);
        x.picks(9);
        Due.write(x, 3, "post 9");
        x.city(3);
        Due.is("restore", x.restore(), 1);
        Due.rows("all is as it was", state(x), before);
        Due.is("beggars", x.status(1), 1);
        Due.is("a shelf with one who isn't", x.holds(0), -1);
        Due.is("a shelf with one who is", x.holds(1), 0);
        Due.is("a shelf with a row", x.holds(2), 101);
        Due.is("its element", x.element(2, 3), 9);
        Due.is("the trace stays", x.trace(0), 11);
        Due.is("the bodies stay", x.status(8), 2);
        Due.is("the fault stays", x.fault(), 5);
        Due.is("the refusals stay", x.status(11), 1);
        Due.is("the refusals stay", x.status(16), 2);
        x.beggar(1, 1);
        Due.is("restore again", x.restore(), 1);
        Due.is("beggars", x.status(1), 1);
        Due.is("a new one is new", x.citizen(0, 0, 0, 0), 1);
        Due.is("his wear", x.citizenOf(1, 4), 0);
        Due.is("his passed", x.citizenOf(1, 5), 0);
        Due.is("he doesn't hide", x.citizenOf(1, 6), 0);
        Due.is("a new beggar", x.beggar(2, 2), 1);
        Due.is("his last", x.beggarOf(1, 2), -1);
        Due.is("his hunger", x.beggarOf(1, 3), 0);
    }

    private static void status() {
        Run x = Due.city("citizen 0 0 9 9;citizen 0 0 9 0;citizen 0 0 9 0;wear 0 40;wear 2 3;hides 2;hides 1;"
                + "beggar 9 0;beggar 8 0;beggar 7 0;beggar 6 0;post 3");
        x.mornings(1);
        x.tell(0, 3, 0);
        x.mornings(2);
        long[] status = new long[9];
        for (int what = 0; what < 9; what++) {
            status[what] = x.status(what);
        }
        Due.rows("status", status, 3, 4, 3, 49, 2 + 3 + 3, 2, 1, 1, 0);
        int[] none = {-1, 9, 10, 18, 19, Integer.MAX_VALUE, Integer.MIN_VALUE};
        for (int what : none) {
            Due.is("status(" + what + ")", x.status(what), -1);
        }
    }
}
