/** Promises 9 to 14: citizen, beggar, tell, post, citizenOf, beggarOf; the FACES. */
public final class PeopleTest {
    public static void main(String[] args) {
        citizens();
        beggars();
        tell();
        posts();
        faces();
        Due.end();
    }

    private static void citizens() {
        Run x = new Run();
        Due.is("kind 7 ahead of wrong", x.citizen(7, -1, 0, 0), -1);
        Due.is("kind -1", x.citizen(-1, 0, 0, 0), -1);
        int[][] wrong = {{-1, 0, 0}, {10, 0, 0}, {0, -1, 0}, {0, 100, 0}, {0, 0, -1}, {0, 0, 21}};
        for (int[] w : wrong) {
            Due.is("a wrong number", x.citizen(0, w[0], w[1], w[2]), -6);
        }
        Due.is("none yet", x.status(0), 0);
        for (int i = 0; i < 6; i++) {
            Due.is("citizen " + i, x.citizen(i + 1, i + 4, 99 - i, 20 - i), i);
        }
        for (int i = 0; i < 6; i++) {
            int[] want = {i + 1, i + 4, 99 - i, 20 - i, 0, 0, 0};
            for (int what = 0; what < 7; what++) {
                Due.is("citizenOf(" + i + ", " + what + ")", x.citizenOf(i, what), want[what]);
            }
        }
        Due.is("no room", x.citizen(0, 0, 0, 0), -7);
        Due.is("wrong ahead of room", x.citizen(0, 0, 0, 21), -6);
        Due.is("no kind ahead of room", x.citizen(7, 0, 0, 21), -1);
        Due.is("no such citizen", x.citizenOf(6, 0), -5);
        Due.is("citizen -1", x.citizenOf(-1, 0), -5);
        Due.is("no such what", x.citizenOf(0, 8), -5);
        Due.is("what -1", x.citizenOf(0, -1), -5);
        Due.is("refusals -1", x.status(11), 3);
        Due.is("refusals -5", x.status(15), 4);
        Due.is("refusals -6", x.status(16), 7);
        Due.is("refusals -7", x.status(17), 1);
    }

    private static void beggars() {
        Run x = new Run();
        int[][] wrong = {{0, 0}, {10, 0}, {1, -1}, {1, 5}};
        for (int[] w : wrong) {
            Due.is("a wrong number", x.beggar(w[0], w[1]), -6);
        }
        for (int i = 0; i < 6; i++) {
            Due.is("beggar " + i, x.beggar(9 - i, i % 5), i);
        }
        for (int i = 0; i < 6; i++) {
            int[] want = {9 - i, i % 5, -1, 0, 0};
            for (int what = 0; what < 5; what++) {
                Due.is("beggarOf(" + i + ", " + what + ")", x.beggarOf(i, what), want[what]);
            }
        }
        Due.is("no room", x.beggar(1, 0), -7);
        Due.is("wrong ahead of room", x.beggar(1, 5), -6);
        Due.is("no such beggar", x.beggarOf(6, 0), -15);
        Due.is("beggar -1", x.beggarOf(-1, 0), -15);
        Due.is("no such what", x.beggarOf(0, 5), -15);
        Due.is("what -1", x.beggarOf(0, -1), -15);
        Due.is("refusals -5", x.status(15), 4);
        Due.is("refusals -6", x.status(16), 5);
        Due.is("refusals -7", x.status(17), 1);
    }

    private static void tell() {
        Run x = new Run();
        x.citizen(0, 1, 2, 3);
        int[] of = {6, 4, 3, 2};
        int[] most = {1, 99, 20, 99};
        int[] was = {0, 0, 3, 2};
        for (int what = 0; what < 4; what++) {
            Due.is("tell(0, " + what + ", most)", x.tell(0, what, most[what]), was[what]);
            Due.is("it is", x.citizenOf(0, of[what]), most[what]);
            Due.is("tell too much", x.tell(0, what, most[what] + 1), -6);
            Due.is("tell below 0", x.tell(0, what, -1), -6);
            Due.is("tell(0, " + what + ", 0)", x.tell(0, what, 0), most[what]);
            Due.is("it is", x.citizenOf(0, of[what]), 0);
        }
        Due.is("what 4", x.tell(0, 4, 0), -6);
        Due.is("what -1", x.tell(0, -1, 0), -6);
        Due.is("no citizen ahead of what", x.tell(1, 4, 0), -1);
        Due.is("citizen -1", x.tell(-1, 0, 0), -1);
        Due.is("refusals -1", x.status(11), 2);
        Due.is("refusals -6", x.status(16), 10);
    }

    private static void posts() {
        Run x = new Run();
        Due.is("no such beggar", x.post(0, true), -1);
        x.beggar(1, 0);
        Due.is("post", x.post(0, true), 0);
        Due.is("has it", x.beggarOf(0, 4), 1);
        Due.is("posts", x.status(6), 1);
        Due.is("post again", x.post(0, true), 1);
        Due.is("post away", x.post(0, false), 1);
        Due.is("post away again", x.post(0, false), 0);
        Due.is("has none", x.beggarOf(0, 4), 0);
        Due.is("posts", x.status(6), 0);
        Due.is("beggar -1", x.post(-1, true), -1);
        Due.is("refusals -1", x.status(11), 2);
    }

    private static void faces() {
        // kind, a, means, heart, wear, face
        int[][] due = {
            {0, 9, 0, 20, 0, 20}, {0, 9, 0, 20, 9, 20}, {0, 9, 0, 20, 10, 19}, {0, 9, 0, 8, 99, 0}, {0, 0, 0, 9, 99, 0},
            {1, 9, 0, 20, 4, 20}, {1, 9, 0, 20, 5, 19}, {1, 9, 0, 20, 99, 1}, {1, 9, 0, 18, 99, 0},
            {2, 9, 0, 15, 0, 7}, {2, 9, 0, 15, 10, 7}, {2, 9, 0, 15, 20, 6}, {2, 9, 0, 0, 99, 0},
            {3, 9, 0, 15, 0, 16}, {3, 9, 0, 0, 99, 5}, {3, 9, 0, 4, 99, 7}, {3, 0, 0, 0, 99, 0},
            {6, 9, 0, 15, 0, 13}, {6, 2, 0, 0, 0, 0}, {6, 9, 0, 0, 99, 2}, {6, 9, 0, 20, 0, 16},
            {4, 9, 0, 15, 0, 15}, {4, 9, 0, 15, 30, 12},
            {5, 9, 0, 15, 0, 16}, {5, 9, 1, 15, 0, 15}, {5, 9, 0, 0, 99, 0}
        };
        for (int[] d : due) {
            Run x = new Run();
            x.citizen(d[0], d[1], d[2], d[3]);
            x.tell(0, 1, d[4]);
            Due.is("face of kind " + d[0] + " heart " + d[3] + " wear " + d[4], x.citizenOf(0, 7), d[5]);
        }
        // passed mornings raise the face of the anxious, to 9; the face ends at 30
        Run x = Due.city("citizen 4 0 0 20;citizen 5 0 0 20;citizen 0 0 0 20;citizen 5 0 1 3");
        x.mornings(4);
        Due.is("anxious", x.citizenOf(0, 7), 24);
        Due.is("empty", x.citizenOf(1, 7), 25);
        Due.is("citizen", x.citizenOf(2, 7), 20);
        x.mornings(8);
        Due.is("anxious", x.citizenOf(0, 7), 29);
        Due.is("empty", x.citizenOf(1, 7), 30);
        Due.is("empty with means", x.citizenOf(3, 7), 12);
        Due.is("passed", x.citizenOf(3, 5), 9);
        x.tell(3, 1, 99);
        Due.is("below 0 is added before it is limited", x.citizenOf(3, 7), 3);
    }
}
