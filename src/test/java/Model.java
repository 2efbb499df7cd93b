import java.util.ArrayList;
import java.util.Arrays;
import java.util.List;

/** The document once more, written for tests alone and without regard to cost: what each call is due to answer. */
final class Model {
    private static final int NONE = -1;
    private static final int[] ABOVE = {-1, 0, 0, 2, 0, 4, 3};

    private static final class Citizen {
        int kind, a, means, heart, wear, passed;
        boolean hides;

        Citizen copy() {
            Citizen c = new Citizen();
            c.kind = kind;
            c.a = a;
            c.means = means;
            c.heart = heart;
            c.wear = wear;
            c.passed = passed;
            c.hides = hides;
            return c;
        }

        int face() {
            return Math.min(30, Math.max(0, boundless(kind)));
        }

        private int boundless(int k) {
            return switch (k) {
                case 0 -> heart - wear / 10;
                case 1 -> heart - wear / 5;
                case 2 -> boundless(0) / 2;
                case 3 -> boundless(2) + a;
                case 4 -> boundless(0) + passed;
                case 5 -> boundless(4) + (means == 0 ? 1 : 0);
                default -> boundless(3) - 3;
            };
        }
    }

    private static final class Beggar {
        int need, rule, last = NONE, hunger;
        boolean post;

        Beggar copy() {
            Beggar b = new Beggar();
            b.need = need;
            b.rule = rule;
            b.last = last;
            b.hunger = hunger;
            b.post = post;
            return b;
        }
    }

    private static final class City {
        final List<Citizen> citizens = new ArrayList<>();
        final List<Beggar> beggars = new ArrayList<>();
        int mornings;
        int seed = 1;

        City copy() {
            City city = new City();
            citizens.forEach(c -> city.citizens.add(c.copy()));
            beggars.forEach(b -> city.beggars.add(b.copy()));
            city.mornings = mornings;
            city.seed = seed;
            return city;
        }

        List<Integer> open() {
            List<Integer> open = new ArrayList<>();
            for (int c = 0; c < citizens.size(); c++) {
                if (!citizens.get(c).hides) {
                    open.add(c);
                }
            }
            return open;
        }

        List<Integer> coming() {
            List<Integer> coming = new ArrayList<>();
            for (int b = 0; b < beggars.size(); b++) {
                if (!beggars.get(b).post) {
                    coming.add(b);
                }
            }
            return coming;
        }
    }

    /** What comes of one morning in a city, which stays as it is. */
    private static final class Morning {
        final City city;
        final int[] pick = new int[6];
        final boolean[] kept = new boolean[6];
        final int[] counted = new int[6];
        final int[] burden = new int[6];

        Morning(City city) {
            this.city = city;
            Arrays.fill(pick, NONE);
            for (int b : city.coming()) {
                pick[b] = picked(b);
                if (pick[b] != NONE) {
                    kept[b] = keeps(pick[b], city.beggars.get(b).need);
                }
            }
        }

        int picked(int b) {
            List<Integer> open = city.open();
            if (open.isEmpty()) {
                return NONE;
            }
            Beggar beggar = city.beggars.get(b);
            if (beggar.rule == 3) {
                return open.get((b + city.mornings) % open.size());
            }
            if (beggar.rule == 4 && open.contains(beggar.last)) {
                return beggar.last;
            }
            int best = open.get(0);
            for (int c : open) {
                best = value(beggar.rule, c) > value(beggar.rule, best) ? c : best;
            }
            return best;
        }

        int value(int rule, int c) {
            int face = city.citizens.get(c).face();
            return switch (rule) {
                case 1 -> -face;
                case 2 -> face - 100 * Integer.bitCount(pickers(c));
                default -> face;
            };
        }

        boolean keeps(int c, int need) {
            Citizen citizen = city.citizens.get(c);
            boolean besides = citizen.kind == 5 && need <= citizen.a;
            boolean keeps = besides || citizen.means >= counted[c] + need;
            counted[c] += keeps && !besides ? need : 0;
            burden[c] += keeps ? need : 0;
            return keeps;
        }

        int pickers(int c) {
            int bits = 0;
            for (int b = 0; b < 6; b++) {
                bits |= pick[b] == c ? 1 << b : 0;
            }
            return bits;
        }

        int keptBits() {
            int bits = 0;
            for (int b = 0; b < 6; b++) {
                bits |= kept[b] ? 1 << b : 0;
            }
            return bits;
        }

        int unkept() {
            return city.coming().size() - Integer.bitCount(keptBits());
        }

        int pass() {
            for (int c = 0; c < city.citizens.size(); c++) {
                Citizen citizen = city.citizens.get(c);
                boolean isPicked = pickers(c) != 0;
                citizen.wear = isPicked ? Math.min(99, citizen.wear + burden[c]) : Math.max(0, citizen.wear - 2);
                citizen.passed = isPicked ? 0 : Math.min(9, citizen.passed + 1);
            }
            for (int b : city.coming()) {
                Beggar beggar = city.beggars.get(b);
                beggar.last = pick[b] == NONE ? beggar.last : pick[b];
                beggar.hunger = kept[b] ? 0 : Math.min(99, beggar.hunger + 1);
            }
            city.mornings++;
            return unkept();
        }
    }

    private static final class Shelf {
        int sort = NONE;
        long[] elements = {};
        int citizen = NONE;
    }

    /** The moves by the machine's own ways of going from a class to the one above it. */
    private static class Mover {
        int m;
        int k;
        final List<Integer> trace = new ArrayList<>();

        int looks(int x) {
            trace.add(10);
            return x + m;
        }

        int gives(int x) {
            trace.add(11);
            return looks(x) * 2;
        }

        int shuts(int x) {
            trace.add(12);
            return gives(x) ^ looks(x - k);
        }
    }

    private static final class WornMover extends Mover {
        @Override
        int gives(int x) {
            trace.add(20);
            return super.gives(x) + k;
        }
    }

    private static class SourMover extends Mover {
        @Override
        int looks(int x) {
            trace.add(30);
            return super.looks(x) * 3;
        }
    }

    private static class HiredMover extends SourMover {
        @Override
        int looks(int x) {
            trace.add(40);
            return super.looks(x + 1);
        }
    }

    private static class AnxiousMover extends Mover {
        @Override
        int shuts(int x) {
            trace.add(50);
            return -super.shuts(x);
        }

        @Override
        int looks(int x) {
            trace.add(51);
            return super.looks(x) - m;
        }
    }

    private static final class EmptyMover extends AnxiousMover {
        @Override
        int shuts(int x) {
            trace.add(60);
            return super.shuts(x) ^ 5;
        }
    }

    private static final class MeanMover extends HiredMover {
        @Override
        int looks(int x) {
            trace.add(70);
            return super.looks(x) * 2;
        }

        @Override
        int gives(int x) {
            trace.add(71);
            return super.gives(x - k);
        }
    }

    private static final class Fault extends Exception {
        private static final long serialVersionUID = 1L;
        final int place;

        Fault(int place) {
            this.place = place;
        }
    }

    private static final class Text {
        final int[] signs;
        final City city;
        int at;

        Text(int[] signs, City city) {
            this.signs = signs;
            this.city = city;
        }

        int items() throws Fault {
            int items = 1;
            item();
            while (at < signs.length) {
                sign(';');
                item();
                items++;
            }
            return items;
        }

        void item() throws Fault {
            int start = at;
            String word = word();
            if (word.equals("citizen") && city.citizens.size() == 6 || word.equals("beggar") && city.beggars.size() == 6) {
                throw new Fault(start);
            }
            int citizens = city.citizens.size();
            switch (word) {
                case "citizen" -> {
                    Citizen c = new Citizen();
                    c.kind = number(0, 6);
                    c.a = number(0, 9);
                    c.means = number(0, 99);
                    c.heart = number(0, 20);
                    city.citizens.add(c);
                }
                case "beggar" -> {
                    Beggar b = new Beggar();
                    b.need = number(1, 9);
                    b.rule = number(0, 4);
                    city.beggars.add(b);
                }
                case "wear" -> {
                    Citizen c = city.citizens.get(number(0, citizens - 1));
                    c.wear = number(0, 99);
                }
                case "hides" -> city.citizens.get(number(0, citizens - 1)).hides = true;
                case "comes" -> city.citizens.get(number(0, citizens - 1)).hides = false;
                default -> city.beggars.get(number(0, city.beggars.size() - 1)).post = true;
            }
        }

        String word() throws Fault {
            List<String> words = List.of("citizen", "beggar", "wear", "hides", "comes", "post");
            String sofar = "";
            while (!words.contains(sofar)) {
                String longer = sofar + (at < signs.length && signs[at] > 0 && signs[at] < 128 ? (char) signs[at] : '?');
                if (words.stream().noneMatch(w -> w.startsWith(longer))) {
                    throw new Fault(at);
                }
                sofar = longer;
                at++;
            }
            return sofar;
        }

        void sign(int wanted) throws Fault {
            if (at >= signs.length || signs[at] != wanted) {
                throw new Fault(at);
            }
            at++;
        }

        boolean digit() {
            return at < signs.length && signs[at] >= '0' && signs[at] <= '9';
        }

        int number(int least, int most) throws Fault {
            sign(' ');
            int first = at;
            int v = 0;
            while (digit() && at < first + 2) {
                v = v * 10 + signs[at++] - '0';
            }
            if (at == first || v < least || v > most) {
                throw new Fault(first);
            }
            return v;
        }
    }

    private City city = new City();
    private City image;
    private final Shelf[] shelves = new Shelf[8];
    private final int[] refused = new int[8];
    private int fault = NONE;
    private List<Integer> trace = List.of();

    Model() {
        for (int s = 0; s < 8; s++) {
            shelves[s] = new Shelf();
        }
    }

    private int refuse(int answer) {
        refused[-answer % 10]++;
        return answer;
    }

    private static boolean in(int v, int least, int most) {
        return v >= least && v <= most;
    }

    private static boolean noShelf(int s) {
        return !in(s, 0, 7);
    }

    private boolean noCitizen(int c) {
        return !in(c, 0, city.citizens.size() - 1);
    }

    private boolean noBeggar(int b) {
        return !in(b, 0, city.beggars.size() - 1);
    }

    /** -1, -2 or -3 where a shelf holds no row, else 0. */
    private int noRow(int s) {
        if (noShelf(s)) {
            return -1;
        }
        return shelves[s].citizen != NONE ? -2 : shelves[s].sort == NONE ? -3 : 0;
    }

    int row(int s, int sort, int n) {
        if (noShelf(s)) {
            return refuse(-1);
        }
        if (n < 0) {
            return refuse(-4);
        }
        if (!in(sort, 0, 3)) {
            return refuse(-6);
        }
        if (n > 160) {
            return refuse(-7);
        }
        shelves[s] = new Shelf();
        shelves[s].sort = sort;
        shelves[s].elements = new long[n];
        return 1;
    }

    int set(int s, int i, long v) {
        if (noRow(s) != 0) {
            return refuse(noRow(s));
        }
        Shelf shelf = shelves[s];
        if (!in(i, 0, shelf.elements.length - 1)) {
            return refuse(-5);
        }
        int idle = new int[] {56, 48, 32, 0}[shelf.sort];
        shelf.elements[i] = v << idle >> idle;
        return 1;
    }

    int copy(int p, int q, int i, int j, int n) {
        if (noShelf(p) || noShelf(q)) {
            return refuse(-1);
        }
        Shelf from = shelves[p];
        Shelf to = shelves[q];
        if (from.citizen != NONE || to.citizen != NONE) {
            return refuse(-2);
        }
        if (from.sort == NONE || to.sort == NONE) {
            return refuse(-3);
        }
        if (from.sort != to.sort) {
            return refuse(-2);
        }
        if (n < 0) {
            return refuse(-4);
        }
        if (i < 0 || j < 0 || (long) i + n > from.elements.length || (long) j + n > to.elements.length) {
            return refuse(-5);
        }
        long[] moved = Arrays.copyOfRange(from.elements, i, i + n);
        for (int at = 0; at < n; at++) {
            to.elements[j + at] = moved[at];
        }
        return 1;
    }

    long element(int s, int i) {
        return !noShelf(s) && in(i, 0, shelves[s].elements.length - 1) ? shelves[s].elements[i] : 0;
    }

    int show(int s, int citizen) {
        if (noShelf(s) || citizen != NONE && noCitizen(citizen)) {
            return refuse(-1);
        }
        shelves[s] = new Shelf();
        shelves[s].citizen = citizen;
        return citizen == NONE ? 0 : 1;
    }

    int holds(int s) {
        if (noShelf(s)) {
            return NONE;
        }
        return shelves[s].sort == NONE ? shelves[s].citizen : 100 + shelves[s].sort;
    }

    int says(int s, int kind) {
        if (noShelf(s) || !in(kind, 0, 6)) {
            return refuse(-1);
        }
        if (shelves[s].sort != NONE) {
            return refuse(-2);
        }
        if (shelves[s].citizen == NONE) {
            return refuse(-3);
        }
        Citizen c = city.citizens.get(shelves[s].citizen);
        int k = c.kind;
        while (k != kind && k != NONE) {
            k = ABOVE[k];
        }
        if (k == NONE) {
            return refuse(-2);
        }
        return new int[] {c.face(), c.wear, c.a, c.a, c.passed, c.passed, c.a}[kind];
    }

    int citizen(int kind, int a, int means, int heart) {
        if (!in(kind, 0, 6)) {
            return refuse(-1);
        }
        if (!in(a, 0, 9) || !in(means, 0, 99) || !in(heart, 0, 20)) {
            return refuse(-6);
        }
        if (city.citizens.size() == 6) {
            return refuse(-7);
        }
        Citizen c = new Citizen();
        c.kind = kind;
        c.a = a;
        c.means = means;
        c.heart = heart;
        city.citizens.add(c);
        return city.citizens.size() - 1;
    }

    int beggar(int needs, int rule) {
        if (!in(needs, 1, 9) || !in(rule, 0, 4)) {
            return refuse(-6);
        }
        if (city.beggars.size() == 6) {
            return refuse(-7);
        }
        Beggar b = new Beggar();
        b.need = needs;
        b.rule = rule;
        city.beggars.add(b);
        return city.beggars.size() - 1;
    }

    int tell(int citizen, int what, int v) {
        if (noCitizen(citizen)) {
            return refuse(-1);
        }
        if (!in(what, 0, 3) || !in(v, 0, new int[] {1, 99, 20, 99}[what])) {
            return refuse(-6);
        }
        Citizen c = city.citizens.get(citizen);
        int was = new int[] {c.hides ? 1 : 0, c.wear, c.heart, c.means}[what];
        c.hides = what == 0 ? v == 1 : c.hides;
        c.wear = what == 1 ? v : c.wear;
        c.heart = what == 2 ? v : c.heart;
        c.means = what == 3 ? v : c.means;
        return was;
    }

    int post(int beggar, boolean is) {
        if (noBeggar(beggar)) {
            return refuse(-1);
        }
        boolean was = city.beggars.get(beggar).post;
        city.beggars.get(beggar).post = is;
        return was ? 1 : 0;
    }

    int citizenOf(int citizen, int what) {
        if (noCitizen(citizen) || !in(what, 0, 7)) {
            return refuse(-5);
        }
        Citizen c = city.citizens.get(citizen);
        return new int[] {c.kind, c.a, c.means, c.heart, c.wear, c.passed, c.hides ? 1 : 0, c.face()}[what];
    }

    int beggarOf(int beggar, int what) {
        if (noBeggar(beggar) || !in(what, 0, 4)) {
            return refuse(-15);
        }
        Beggar b = city.beggars.get(beggar);
        return new int[] {b.need, b.rule, b.last, b.hunger, b.post ? 1 : 0}[what];
    }

    int city(int s) {
        if (noRow(s) != 0) {
            return refuse(noRow(s));
        }
        City told = city.copy();
        try {
            int items = new Text(Arrays.stream(shelves[s].elements).mapToInt(e -> (int) e).toArray(), told).items();
            city = told;
            fault = NONE;
            return items;
        } catch (Fault f) {
            fault = f.place;
            return refuse(-6);
        }
    }

    int fault() {
        return fault;
    }

    int picks(int beggar) {
        return noBeggar(beggar) ? refuse(-11) : new Morning(city).pick[beggar];
    }

    int kept() {
        return new Morning(city).keptBits();
    }

    int picked(int citizen, int what) {
        if (noCitizen(citizen)) {
            return refuse(-1);
        }
        if (!in(what, 0, 1)) {
            return refuse(-5);
        }
        Morning morning = new Morning(city);
        return what == 0 ? morning.pickers(citizen) : morning.burden[citizen];
    }

    int wear(int citizen, int n) {
        if (noCitizen(citizen)) {
            return refuse(-1);
        }
        if (!in(n, 0, 40)) {
            return refuse(-6);
        }
        City then = city.copy();
        for (int i = 0; i < n; i++) {
            new Morning(then).pass();
        }
        return then.citizens.get(citizen).wear;
    }

    int unkept(int n, int what) {
        if (!in(what, 0, 1)) {
            return refuse(-15);
        }
        if (!in(n, 0, 40)) {
            return refuse(-16);
        }
        City then = city.copy();
        int sum = 0;
        int first = NONE;
        for (int i = 1; i <= n; i++) {
            int unkept = new Morning(then).pass();
            first = first == NONE && unkept > 0 ? i : first;
            sum += unkept;
        }
        return what == 0 ? sum : first;
    }

    /** All partings one after the other as numbers of as many digits as beggars come, each digit a citizen. */
    int parting(int i) {
        List<Integer> coming = city.coming();
        if (!in(i, NONE, coming.size() - 1)) {
            return refuse(-15);
        }
        List<Integer> open = city.open();
        long all = 1;
        for (int b : coming) {
            all *= open.size();
        }
        int best = Integer.MAX_VALUE;
        int[] gets = null;
        for (long at = 0; at < all; at++) {
            int[] load = new int[6];
            int[] tried = new int[coming.size()];
            long rest = at;
            for (int c = coming.size() - 1; c >= 0; c--) {
                tried[c] = open.get((int) (rest % open.size()));
                rest /= open.size();
                load[tried[c]] += city.beggars.get(coming.get(c)).need;
            }
            int greatest = Arrays.stream(load).max().orElse(0);
            boolean isBorne = open.stream().allMatch(c -> load[c] <= city.citizens.get(c).means);
            if (isBorne && greatest < best) {
                best = greatest;
                gets = tried;
            }
        }
        if (gets == null) {
            return NONE;
        }
        return i == NONE ? best : gets[i];
    }

    int rests(int beggar) {
        if (beggar != NONE && (noBeggar(beggar) || city.beggars.get(beggar).post)) {
            return refuse(-11);
        }
        List<Integer> open = city.open();
        if (open.isEmpty()) {
            return NONE;
        }
        int[] at = new int[6];
        Arrays.fill(at, NONE);
        city.coming().forEach(b -> at[b] = open.get(0));
        for (int rounds = 0; rounds <= 20; rounds++) {
            int[] before = at.clone();
            for (int b : city.coming()) {
                int to = at[b];
                for (int c : open) {
                    to = has(at, b, c) > has(at, b, to) ? c : to;
                }
                at[b] = to;
            }
            if (Arrays.equals(before, at)) {
                return beggar == NONE ? rounds : at[beggar];
            }
        }
        return NONE;
    }

    private int has(int[] at, int b, int c) {
        int crowd = 1;
        for (int other = 0; other < at.length; other++) {
            crowd += other != b && at[other] == c ? 1 : 0;
        }
        return Math.min(city.citizens.get(c).means / crowd, city.beggars.get(b).need);
    }

    int shun(int citizen, int what) {
        if (noCitizen(citizen) || city.citizens.get(citizen).hides) {
            return refuse(-11);
        }
        if (!in(what, 0, 1)) {
            return refuse(-15);
        }
        int greatestUnpicked = NONE;
        int leastPicked = NONE;
        for (int heart = 0; heart <= 20; heart++) {
            City tried = city.copy();
            tried.citizens.get(citizen).heart = heart;
            boolean isPicked = new Morning(tried).pickers(citizen) != 0;
            greatestUnpicked = isPicked ? greatestUnpicked : heart;
            leastPicked = isPicked && leastPicked == NONE ? heart : leastPicked;
        }
        return what == 0 ? greatestUnpicked : leastPicked;
    }

    int rules(int beggar, int citizen) {
        if (noBeggar(beggar) || noCitizen(citizen)) {
            return refuse(-1);
        }
        if (city.beggars.get(beggar).post) {
            return refuse(-6);
        }
        int bits = 0;
        for (int rule = 0; rule <= 4; rule++) {
            City tried = city.copy();
            tried.beggars.get(beggar).rule = rule;
            bits |= new Morning(tried).pick[beggar] == citizen ? 1 << rule : 0;
        }
        return bits;
    }

    int hide() {
        Morning morning = new Morning(city);
        int most = 0;
        int who = NONE;
        for (int c : city.open()) {
            if (morning.burden[c] > most) {
                most = morning.burden[c];
                who = c;
            }
        }
        return who;
    }

    int lose(int citizen) {
        if (noCitizen(citizen)) {
            return refuse(-101);
        }
        if (city.citizens.get(citizen).hides) {
            return refuse(-106);
        }
        City tried = city.copy();
        tried.citizens.get(citizen).hides = true;
        return new Morning(tried).unkept() - new Morning(city).unkept();
    }

    int best() {
        int fewest = Integer.MAX_VALUE;
        int who = NONE;
        for (int b : city.coming()) {
            City tried = city.copy();
            tried.beggars.get(b).post = true;
            int unkept = new Morning(tried).unkept();
            if (unkept < fewest) {
                fewest = unkept;
                who = b;
            }
        }
        return who;
    }

    int judge(int s, int n) {
        if (noRow(s) != 0) {
            return refuse(noRow(s) - 10);
        }
        if (n < 0) {
            return refuse(-14);
        }
        if (n > shelves[s].elements.length) {
            return refuse(-15);
        }
        if (n > 40) {
            return refuse(-16);
        }
        List<Integer> coming = city.coming();
        Morning morning = new Morning(city);
        for (int i = 0; i < n; i++) {
            if (i >= coming.size() || (int) shelves[s].elements[i] != morning.pick[coming.get(i)]) {
                return i;
            }
        }
        return n < coming.size() ? n : NONE;
    }

    int mornings(int n) {
        if (!in(n, 1, 60)) {
            return refuse(-6);
        }
        int unkept = 0;
        for (int i = 0; i < n; i++) {
            unkept += new Morning(city).pass();
        }
        return unkept;
    }

    int winters(int n) {
        if (!in(n, 1, 60)) {
            return refuse(-6);
        }
        int unkept = 0;
        for (int i = 0; i < n; i++) {
            for (Citizen c : city.citizens) {
                long wide = city.seed * 1103515245L + 12345L;
                city.seed = (int) wide;
                c.hides = (wide >> 16 & 0xFFFF) % 10 < c.wear / 10;
            }
            unkept += new Morning(city).pass();
        }
        return unkept;
    }

    int seed(int v) {
        int was = city.seed;
        city.seed = v;
        return was;
    }

    int act(int citizen, int move, int x) {
        trace = List.of();
        if (noCitizen(citizen) || !in(move, 0, 2)) {
            return 0;
        }
        Mover mover = switch (city.citizens.get(citizen).kind) {
            case 0 -> new Mover();
            case 1 -> new WornMover();
            case 2 -> new SourMover();
            case 3 -> new HiredMover();
            case 4 -> new AnxiousMover();
            case 5 -> new EmptyMover();
            default -> new MeanMover();
        };
        mover.m = citizen;
        mover.k = city.citizens.get(citizen).a;
        trace = mover.trace;
        return move == 0 ? mover.looks(x) : move == 1 ? mover.gives(x) : mover.shuts(x);
    }

    int trace(int i) {
        return in(i, 0, Math.min(20, trace.size()) - 1) ? trace.get(i) : NONE;
    }

    int image() {
        image = city.copy();
        return city.citizens.size();
    }

    int restore() {
        if (image == null) {
            return refuse(-6);
        }
        city = image.copy();
        for (Shelf shelf : shelves) {
            shelf.citizen = noCitizen(shelf.citizen) ? NONE : shelf.citizen;
        }
        return city.citizens.size();
    }

    int status(int what) {
        if (in(what, 11, 17)) {
            return refused[what - 10];
        }
        return switch (what) {
            case 0 -> city.citizens.size();
            case 1 -> city.beggars.size();
            case 2 -> city.mornings;
            case 3 -> city.citizens.stream().mapToInt(c -> c.wear).sum();
            case 4 -> city.beggars.stream().mapToInt(b -> b.hunger).sum();
            case 5 -> city.citizens.size() - city.open().size();
            case 6 -> city.beggars.size() - city.coming().size();
            case 7 -> city.seed;
            case 8 -> trace.size();
            default -> NONE;
        };
    }
}
