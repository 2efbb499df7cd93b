/** Promises 22 to 29: parting, rests, shun, rules, hide, lose, best, judge. */
public final class OutcomeTest {
    public static void main(String[] args) {
        parting();
        rests();
        shun();
        rules();
        hideAndLose();
        best();
        judge();
        judgeRefused();
        Due.end();
    }

    private static void parting() {
        Run x = Due.city("citizen 0 0 9 0;citizen 0 0 4 0;citizen 0 0 99 0;hides 2;beggar 5 0;beggar 9 0;beggar 4 0;post 1");
        Due.is("how much", x.parting(-1), 5);
        Due.is("whom the first gets", x.parting(0), 0);
        Due.is("whom the second of those who come gets", x.parting(1), 1);
        Due.is("no third", x.parting(2), -15);
        Due.is("i below NONE", x.parting(-2), -15);
        x.tell(1, 3, 3);
        Due.is("means bind", x.parting(-1), 9);
        x.tell(0, 3, 8);
        Due.is("it can't be", x.parting(-1), -1);
        Due.is("it can't be", x.parting(0), -1);
        Due.is("no such, also where it can't be", x.parting(2), -15);
        Due.is("refusals -5", x.status(15), 3);
        Run y = Due.city("citizen 0 0 9 0;citizen 0 0 9 0;beggar 1 0;beggar 1 0;beggar 4 0;beggar 2 0");
        Due.is("how much", y.parting(-1), 4);
        Due.rows("the first by rows", gets(y, 4), 0, 0, 1, 0);
        Due.is("none come", Due.city("citizen 0 0 9 0;hides 0").parting(-1), 0);
        Due.is("none come: no such", Due.city("citizen 0 0 9 0").parting(0), -15);
        Due.is("nobody to go to", Due.city("beggar 1 0").parting(-1), -1);
    }

    private static long[] gets(Run x, int n) {
        long[] gets = new long[n];
        for (int i = 0; i < n; i++) {
            gets[i] = x.parting(i);
        }
        return gets;
    }

    private static void rests() {
        Run x = Due.city("citizen 0 0 99 0;citizen 0 0 8 0;citizen 0 0 6 0;hides 0;beggar 9 0;beggar 9 0;beggar 1 0;"
                + "beggar 2 0;post 3");
        Due.is("rounds", x.rests(-1), 1);
        // from 8 by 3: 2 each; the first goes to 6, the second stays with 4, the third has 1 anyhow
        Due.is("the first", x.rests(0), 2);
        Due.is("the second", x.rests(1), 1);
        Due.is("the third", x.rests(2), 1);
        Due.is("one with a post", x.rests(3), -11);
        Due.is("no such", x.rests(4), -11);
        Due.is("no such", x.rests(-2), -11);
        x.tell(1, 0, 1);
        x.tell(2, 0, 1);
        Due.is("all hide", x.rests(-1), -1);
        Due.is("all hide", x.rests(0), -1);
        Due.is("post ahead of all hide", x.rests(3), -11);
        Due.is("refusals -1", x.status(11), 4);
        Due.is("none come", Due.city("citizen 0 0 9 0").rests(-1), 0);
        Due.is("nothing better", Due.city("citizen 0 0 9 0;citizen 0 0 9 0;beggar 9 0").rests(-1), 0);
        Due.is("the first of several", Due.city("citizen 0 0 3 0;citizen 0 0 9 0;citizen 0 0 9 0;beggar 9 0").rests(0), 1);
    }

    private static void shun() {
        Run x = Due.city("citizen 0 0 9 10;citizen 0 0 9 7;beggar 1 0");
        Due.is("greatest heart unpicked", x.shun(1, 0), 10);
        Due.is("least heart picked", x.shun(1, 1), 11);
        Due.is("the first of several", x.shun(0, 1), 7);
        Due.is("greatest heart unpicked", x.shun(0, 0), 6);
        Due.is("nothing is changed", x.citizenOf(0, 3), 10);
        x.post(0, true);
        Due.is("none comes", x.shun(0, 0), 20);
        Due.is("none comes", x.shun(0, 1), -1);
        Due.is("always picked", Due.city("citizen 0 0 9 10;beggar 1 1").shun(0, 0), -1);
        x.tell(1, 0, 1);
        Due.is("who hides ahead of what", x.shun(1, 2), -11);
        Due.is("no such", x.shun(2, 0), -11);
        Due.is("another what", x.shun(0, 2), -15);
        Due.is("another what", x.shun(0, -1), -15);
        Due.is("refusals -1", x.status(11), 2);
        Due.is("refusals -5", x.status(15), 2);
    }

    private static void rules() {
        Run x = Due.city("citizen 0 0 9 5;citizen 0 0 9 9;citizen 0 0 9 7;beggar 1 0;beggar 1 0;beggar 1 1");
        Due.is("rules to 0", x.rules(1, 0), 2);
        Due.is("rules to 1", x.rules(1, 1), 1 + 8 + 16);
        Due.is("rules to 2", x.rules(1, 2), 4);
        Due.is("his rule stays", x.beggarOf(1, 1), 0);
        x.tell(1, 0, 1);
        Due.is("rules to who hides", x.rules(1, 1), 0);
        Due.is("no beggar", x.rules(3, 0), -1);
        Due.is("no citizen", x.rules(0, 3), -1);
        x.post(0, true);
        Due.is("no citizen ahead of a post", x.rules(0, -1), -1);
        Due.is("a post", x.rules(0, 0), -6);
        Due.is("refusals -1", x.status(11), 3);
        Due.is("refusals -6", x.status(16), 1);
    }

    private static void hideAndLose() {
        Run x = Due.city("citizen 0 0 9 5;citizen 0 0 4 9;citizen 0 0 9 9;beggar 4 0;beggar 4 2;beggar 5 0");
        Due.rows("picks", Due.picks(x), 1, 2, 1);
        Due.is("the first of several", x.hide(), 1);
        x.tell(1, 3, 3);
        Due.is("the greatest burden", x.hide(), 2);
        Due.is("lose: fewer go unkept", x.lose(1), -2);
        Due.is("lose: as many", x.lose(0), 0);
        Due.is("nobody hides", x.status(5), 0);
        Due.is("lose: more", Due.city("citizen 0 0 9 5;beggar 9 0").lose(0), 1);
        Due.is("nobody has any", Due.city("citizen 0 0 0 5;beggar 9 0").hide(), -1);
        x.tell(0, 0, 1);
        Due.is("hides already", x.lose(0), -106);
        Due.is("no such", x.lose(3), -101);
        Due.is("no such", x.lose(-1), -101);
        Due.is("refusals -1", x.status(11), 2);
        Due.is("refusals -6", x.status(16), 1);
    }

    private static void best() {
        Run x = Due.city("citizen 0 0 6 5;beggar 6 0;beggar 3 0;beggar 3 0");
        Due.is("the one in the way", x.best(), 0);
        x.tell(0, 3, 0);
        Due.is("the first of several", x.best(), 0);
        x.post(0, true);
        Due.is("who has none yet", x.best(), 1);
        Due.is("posts", x.status(6), 1);
        x.post(1, true);
        x.post(2, true);
        Due.is("all have", x.best(), -1);
    }

    private static void judge() {
        Run x = Due.city("citizen 0 0 6 5;citizen 0 0 6 9;beggar 6 0;beggar 3 0;beggar 3 1;post 0");
        x.row(0, 3, 45);
        x.set(0, 0, 1L + (1L << 33));
        Due.is("right, but 0 is told behind", x.judge(0, 3), 2);
        Due.is("right", x.judge(0, 2), -1);
        Due.is("fewer", x.judge(0, 1), 1);
        Due.is("none", x.judge(0, 0), 0);
        x.set(0, 1, 1L);
        Due.is("the second is wrong", x.judge(0, 2), 1);
        x.set(0, 0, 0L);
        Due.is("the first is wrong", x.judge(0, 40), 0);
        x.tell(0, 0, 1);
        x.tell(1, 0, 1);
        x.set(0, 0, -1L);
        x.set(0, 1, -1L);
        Due.is("nobody", x.judge(0, 2), -1);
        x.row(0, 0, 2);
        x.set(0, 0, 255L);
        x.set(0, 1, 255L);
        Due.is("nobody, of bytes", x.judge(0, 2), -1);
    }

    private static void judgeRefused() {
        Run x = Due.city("citizen 0 0 6 5");
        x.row(0, 0, 45);
        x.show(1, 0);
        Due.is("no shelf", x.judge(8, -1), -11);
        Due.is("a citizen", x.judge(1, -1), -12);
        Due.is("nothing", x.judge(2, -1), -13);
        Due.is("n below 0", x.judge(0, -1), -14);
        Due.is("fewer elements ahead of n above 40", x.judge(0, 46), -15);
        Due.is("n above 40", x.judge(0, 41), -16);
        Due.is("40 are judged", x.judge(0, 40), 0);
        for (int i = 1; i <= 6; i++) {
            Due.is("refusals -" + i, x.status(10 + i), 1);
        }
    }
}
