import java.util.Random;

/** In many cities by draws: what a question answers agrees with what comes when it is tried. */
public final class AgreementTest {
    private static final Random DRAWS = new Random(20261118);

    public static void main(String[] args) {
        for (int i = 0; i < 1500; i++) {
            BeggarsChoose x = someCity();
            ahead(x);
            shun(x);
            rules(x);
            hideAndLose(x);
            best(x);
            parting(x);
            rests(x);
        }
        Due.end();
    }

    private static int upTo(int n) {
        return DRAWS.nextInt(n + 1);
    }

    private static BeggarsChoose someCity() {
        BeggarsChoose x = new BeggarsChoose();
        int means = DRAWS.nextBoolean() ? 20 : 9;
        int citizens = upTo(6);
        for (int i = 0; i < citizens; i++) {
            x.citizen(upTo(6), upTo(9), upTo(means), upTo(20));
            x.tell(i, 1, upTo(99));
            x.tell(i, 0, upTo(3) == 0 ? 1 : 0);
        }
        int beggars = upTo(6);
        for (int i = 0; i < beggars; i++) {
            x.beggar(1 + upTo(8), upTo(4));
            x.post(i, upTo(4) == 0);
        }
        if (upTo(1) == 0) {
            x.winters(1 + upTo(20));
        }
        return x;
    }

    private static int unkeptNow(BeggarsChoose x) {
        int unkept = 0;
        int kept = x.kept();
        for (int b = 0; b < x.status(1); b++) {
            unkept += x.beggarOf(b, 4) == 0 && (kept >> b & 1) == 0 ? 1 : 0;
        }
        return unkept;
    }

    private static void ahead(BeggarsChoose x) {
        int n = upTo(40);
        int unkept = x.unkept(n, 0);
        int first = x.unkept(n, 1);
        long[] wear = new long[x.status(0)];
        for (int c = 0; c < wear.length; c++) {
            wear[c] = x.wear(c, n);
        }
        x.image();
        int sum = 0;
        int firstThen = -1;
        for (int i = 1; i <= n; i++) {
            int now = unkeptNow(x);
            Due.is("mornings(1)", x.mornings(1), now);
            sum += now;
            firstThen = firstThen < 0 && now > 0 ? i : firstThen;
        }
        Due.is("unkept(n, 0)", unkept, sum);
        Due.is("unkept(n, 1)", first, firstThen);
        for (int c = 0; c < wear.length; c++) {
            Due.is("wear(c, n)", wear[c], x.citizenOf(c, 4));
        }
        x.restore();
    }

    private static void shun(BeggarsChoose x) {
        for (int c = 0; c < x.status(0); c++) {
            if (x.citizenOf(c, 6) == 1) {
                continue;
            }
            int greatest = x.shun(c, 0);
            int least = x.shun(c, 1);
            int was = x.citizenOf(c, 3);
            int unpicked = -1;
            int picked = -1;
            for (int heart = 0; heart <= 20; heart++) {
                x.tell(c, 2, heart);
                if (x.picked(c, 0) == 0) {
                    unpicked = heart;
                } else if (picked < 0) {
                    picked = heart;
                }
            }
            x.tell(c, 2, was);
            Due.is("shun(c, 0)", greatest, unpicked);
            Due.is("shun(c, 1)", least, picked);
        }
    }

    /** Only own rule can be tried: it must be among those told, as must each pick be told once a rule. */
    private static void rules(BeggarsChoose x) {
        for (int b = 0; b < x.status(1); b++) {
            if (x.beggarOf(b, 4) == 1) {
                continue;
            }
            int all = 0;
            for (int c = 0; c < x.status(0); c++) {
                int bits = x.rules(b, c);
                Due.is("no rule picks two", all & bits, 0);
                Due.is("own rule", bits >> x.beggarOf(b, 1) & 1, x.picks(b) == c ? 1 : 0);
                all |= bits;
            }
            Due.is("every rule picks one, if one can", all, x.status(5) < x.status(0) ? 31 : 0);
        }
    }

    private static void hideAndLose(BeggarsChoose x) {
        int most = 0;
        int who = -1;
        int now = unkeptNow(x);
        for (int c = 0; c < x.status(0); c++) {
            if (x.citizenOf(c, 6) == 1) {
                continue;
            }
            if (x.picked(c, 1) > most) {
                most = x.picked(c, 1);
                who = c;
            }
            int lose = x.lose(c);
            x.tell(c, 0, 1);
            Due.is("lose", lose, unkeptNow(x) - now);
            x.tell(c, 0, 0);
        }
        Due.is("hide", x.hide(), who);
    }

    private static void best(BeggarsChoose x) {
        int best = x.best();
        int who = -1;
        int fewest = 99;
        for (int b = 0; b < x.status(1); b++) {
            if (x.beggarOf(b, 4) == 1) {
                continue;
            }
            x.post(b, true);
            if (unkeptNow(x) < fewest) {
                fewest = unkeptNow(x);
                who = b;
            }
            x.post(b, false);
        }
        Due.is("best", best, who);
    }

    private static int[] coming(BeggarsChoose x) {
        int[] coming = new int[6];
        int n = 0;
        for (int b = 0; b < x.status(1); b++) {
            if (x.beggarOf(b, 4) == 0) {
                coming[n++] = b;
            }
        }
        return java.util.Arrays.copyOf(coming, n);
    }

    /** All partings one after the other, counted as numbers of base 6. */
    private static void parting(BeggarsChoose x) {
        int[] coming = coming(x);
        int citizens = x.status(0);
        int best = -1;
        int[] gets = new int[6];
        int[] tried = new int[6];
        int all = 1;
        for (int i = 0; i < coming.length; i++) {
            all *= citizens;
        }
        for (int at = 0; at < all; at++) {
            int rest = at;
            int[] load = new int[6];
            for (int i = coming.length - 1; i >= 0; i--) {
                tried[i] = rest % citizens;
                rest /= citizens;
                load[tried[i]] += x.beggarOf(coming[i], 0);
            }
            int greatest = 0;
            for (int c = 0; c < citizens; c++) {
                boolean isWrong = load[c] > 0 && (x.citizenOf(c, 6) == 1 || load[c] > x.citizenOf(c, 2));
                greatest = Math.max(greatest, isWrong ? 1000 : load[c]);
            }
            if (greatest < 1000 && (best < 0 || greatest < best)) {
                best = greatest;
                gets = tried.clone();
            }
        }
        Due.is("parting(-1)", x.parting(-1), best);
        for (int i = 0; i < coming.length; i++) {
            Due.is("parting(i)", x.parting(i), best < 0 ? -1 : gets[i]);
        }
        Due.is("parting beyond", x.parting(coming.length), -15);
    }

    private static void rests(BeggarsChoose x) {
        int[] coming = coming(x);
        int[] at = new int[coming.length];
        int first = 0;
        while (first < x.status(0) && x.citizenOf(first, 6) == 1) {
            first++;
        }
        java.util.Arrays.fill(at, first);
        int rounds = first == x.status(0) ? -1 : 0;
        boolean isMoving = rounds == 0;
        while (isMoving && rounds >= 0) {
            isMoving = false;
            for (int i = 0; i < at.length; i++) {
                int to = at[i];
                for (int c = 0; c < x.status(0); c++) {
                    if (x.citizenOf(c, 6) == 0 && has(x, coming, at, i, c) > has(x, coming, at, i, to)) {
                        to = c;
                    }
                }
                isMoving |= to != at[i];
                at[i] = to;
            }
            rounds = isMoving ? rounds + 1 : rounds;
            rounds = rounds > 20 ? -1 : rounds;
        }
        Due.is("rests(-1)", x.rests(-1), rounds);
        for (int i = 0; i < at.length; i++) {
            Due.is("rests(b)", x.rests(coming[i]), rounds < 0 ? -1 : at[i]);
        }
    }

    private static int has(BeggarsChoose x, int[] coming, int[] at, int i, int c) {
        int crowd = 1;
        for (int j = 0; j < at.length; j++) {
            crowd += j != i && at[j] == c ? 1 : 0;
        }
        return Math.min(x.beggarOf(coming[i], 0), x.citizenOf(c, 2) / crowd);
    }
}
