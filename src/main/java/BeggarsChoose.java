/** A city in which each morning the poor pick the citizens who are to keep them for the day. */
public final class BeggarsChoose {
    public static final int NONE = -1;

    private static final int MOST_PEOPLE = 6;
    private static final int MOST_SHELVES = 8;
    private static final int MOST_ELEMENTS = 160;
    private static final int MOST_AHEAD = 40;
    private static final int MOST_IN_TRUTH = 60;
    private static final int MOST_ROUNDS = 20;
    private static final int MOST_BODIES_KEPT = 20;
    private static final int MOST_DEPTH = 40;
    private static final int MOST_WEAR = 99;
    private static final int MOST_MEANS = 99;
    private static final int MOST_HEART = 20;
    private static final int MOST_PASSED = 9;
    private static final int MOST_HUNGER = 99;
    private static final int MOST_NEED = 9;
    private static final int MOST_A = 9;
    private static final int MOST_FACE = 30;
    // above every sum of NEEDS that can come together
    private static final int NO_LOAD = 1000;

    private static final int CITIZEN = 0;
    private static final int WORN = 1;
    private static final int SOUR = 2;
    private static final int HIRED = 3;
    private static final int ANXIOUS = 4;
    private static final int EMPTY = 5;
    private static final int MEAN = 6;
    private static final int KINDS = 7;
    private static final int[] KIND_ABOVE = {NONE, CITIZEN, CITIZEN, SOUR, CITIZEN, ANXIOUS, HIRED};

    private static final int BY_FACES = 0;
    private static final int BY_ANGER = 1;
    private static final int BY_FEWEST = 2;
    private static final int BLIND = 3;
    private static final int FAITHFUL = 4;
    private static final int RULES = 5;

    private static final int LOOKS = 0;
    private static final int GIVES = 1;
    private static final int SHUTS = 2;
    private static final int MOVES = 3;
    // by KIND, then by MOVE: the body's number; 0: the KIND has none of its own
    private static final int[] BODIES = {
        10, 11, 12,
        0, 20, 0,
        30, 0, 0,
        40, 0, 0,
        51, 0, 50,
        0, 0, 60,
        70, 71, 0
    };

    private static final int BYTES = 0;
    private static final int SHORTS = 1;
    private static final int INTS = 2;
    private static final int LONGS = 3;
    private static final int SORTS = 4;

    private static final int NOBODY = 1;
    private static final int OTHER = 2;
    private static final int NOTHING = 3;
    private static final int BELOW = 4;
    private static final int BEYOND = 5;
    private static final int WRONG = 6;
    private static final int ROOM = 7;
    private static final int REFUSALS = 7;

    private static final int WORD_CITIZEN = 0;
    private static final int WORD_BEGGAR = 1;
    private static final int WORD_WEAR = 2;
    private static final int WORD_HIDES = 3;
    private static final int WORD_COMES = 4;
    private static final int WORD_POST = 5;
    private static final int WORDS = 6;

    private final City now = new City();
    // questions are tried on this one, so that nothing is changed
    private final City trial = new City();
    private final City taken = new City();
    private boolean isTaken;
    private final Shelf[] shelves = new Shelf[MOST_SHELVES];
    private final int[] refused = new int[REFUSALS + 1];
    private final Reader reader = new Reader();
    private final Play play = new Play();

    public BeggarsChoose() {
        for (int s = 0; s < shelves.length; s++) {
            shelves[s] = new Shelf();
        }
    }

    // ---- SHELVES ----

    public int row(int s, int sort, int n) {
        Shelf shelf = shelfAt(s);
        if (shelf == null) {
            return refuse(0, NOBODY);
        }
        if (n < 0) {
            return refuse(0, BELOW);
        }
        if (sort < 0 || sort >= SORTS) {
            return refuse(0, WRONG);
        }
        if (n > MOST_ELEMENTS) {
            return refuse(0, ROOM);
        }
        shelf.takeRow(sort, n);
        return 1;
    }

    public int set(int s, int i, long v) {
        int wrong = noRow(s);
        if (wrong != 0) {
            return refuse(0, wrong);
        }
        Shelf shelf = shelfAt(s);
        if (shelf == null || !shelf.hasElement(i)) {
            return refuse(0, BEYOND);
        }
        shelf.put(i, v);
        return 1;
    }

    public int copy(int p, int q, int i, int j, int n) {
        Shelf from = shelfAt(p);
        Shelf to = shelfAt(q);
        if (from == null || to == null) {
            return refuse(0, NOBODY);
        }
        if (from.hasCitizen() || to.hasCitizen() || from.differsInSort(to)) {
            return refuse(0, OTHER);
        }
        if (!from.hasRow() || !to.hasRow()) {
            return refuse(0, NOTHING);
        }
        if (n < 0) {
            return refuse(0, BELOW);
        }
        if (!from.hasStretch(i, n) || !to.hasStretch(j, n)) {
            return refuse(0, BEYOND);
        }
        to.takeElements(from, i, j, n);
        return 1;
    }

    public long element(int s, int i) {
        Shelf shelf = shelfAt(s);
        return shelf == null ? 0L : shelf.get(i);
    }

    public int show(int s, int citizen) {
        Shelf shelf = shelfAt(s);
        if (shelf == null || (citizen != NONE && now.citizenAt(citizen) == null)) {
            return refuse(0, NOBODY);
        }
        shelf.takeCitizen(citizen);
        return citizen == NONE ? 0 : 1;
    }

    public int holds(int s) {
        Shelf shelf = shelfAt(s);
        if (shelf == null) {
            return NONE;
        }
        return shelf.hasRow() ? 100 + shelf.sort : shelf.citizen;
    }

    public int says(int s, int kind) {
        Shelf shelf = shelfAt(s);
        if (shelf == null || kind < 0 || kind >= KINDS) {
            return refuse(0, NOBODY);
        }
        if (shelf.hasRow()) {
            return refuse(0, OTHER);
        }
        Citizen shown = now.citizenAt(shelf.citizen);
        if (shown == null) {
            return refuse(0, NOTHING);
        }
        if (!isUnder(shown.kind, kind)) {
            return refuse(0, OTHER);
        }
        return shown.saysAs(kind);
    }

    // ---- CITIZENS and BEGGARS ----

    public int citizen(int kind, int a, int means, int heart) {
        if (kind < 0 || kind >= KINDS) {
            return refuse(0, NOBODY);
        }
        if (isOutside(a, 0, MOST_A) || isOutside(means, 0, MOST_MEANS) || isOutside(heart, 0, MOST_HEART)) {
            return refuse(0, WRONG);
        }
        int number = now.addCitizen(kind, a, means, heart);
        return number == NONE ? refuse(0, ROOM) : number;
    }

    public int beggar(int needs, int rule) {
        if (isOutside(needs, 1, MOST_NEED) || isOutside(rule, 0, RULES - 1)) {
            return refuse(0, WRONG);
        }
        int number = now.addBeggar(needs, rule);
        return number == NONE ? refuse(0, ROOM) : number;
    }

    public int tell(int citizen, int what, int v) {
        Citizen told = now.citizenAt(citizen);
        if (told == null) {
            return refuse(0, NOBODY);
        }
        if (isOutside(v, 0, mostToTell(what))) {
            return refuse(0, WRONG);
        }
        return told.becomes(what, v);
    }

    public int post(int beggar, boolean is) {
        Beggar told = now.beggarAt(beggar);
        if (told == null) {
            return refuse(0, NOBODY);
        }
        int was = told.hasPost ? 1 : 0;
        told.hasPost = is;
        return was;
    }

    public int citizenOf(int citizen, int what) {
        Citizen asked = now.citizenAt(citizen);
        if (asked == null) {
            return refuse(0, BEYOND);
        }
        switch (what) {
            case 0: return asked.kind;
            case 1: return asked.a;
            case 2: return asked.means;
            case 3: return asked.heart;
            case 4: return asked.wear;
            case 5: return asked.passed;
            case 6: return asked.isHidden ? 1 : 0;
            case 7: return asked.faceNow();
            default: return refuse(0, BEYOND);
        }
    }

    public int beggarOf(int beggar, int what) {
        Beggar asked = now.beggarAt(beggar);
        if (asked == null) {
            return refuse(10, BEYOND);
        }
        switch (what) {
            case 0: return asked.need;
            case 1: return asked.rule;
            case 2: return asked.last;
            case 3: return asked.hunger;
            case 4: return asked.hasPost ? 1 : 0;
            default: return refuse(10, BEYOND);
        }
    }

    public int city(int s) {
        int wrong = noRow(s);
        if (wrong != 0) {
            return refuse(0, wrong);
        }
        Shelf shelf = shelfAt(s);
        if (shelf == null) {
            return refuse(0, NOBODY);
        }
        trial.become(now);
        int items = reader.read(shelf, trial);
        if (items == NONE) {
            return refuse(0, WRONG);
        }
        now.become(trial);
        return items;
    }

    public int fault() {
        return reader.fault;
    }

    // ---- A MORNING, looked at ----

    public int picks(int beggar) {
        Beggar asked = now.beggarAt(beggar);
        if (asked == null) {
            return refuse(10, NOBODY);
        }
        now.goBy();
        return asked.pick;
    }

    public int kept() {
        now.goBy();
        return now.keptBits();
    }

    public int picked(int citizen, int what) {
        Citizen asked = now.citizenAt(citizen);
        if (asked == null) {
            return refuse(0, NOBODY);
        }
        if (isOutside(what, 0, 1)) {
            return refuse(0, BEYOND);
        }
        now.goBy();
        return what == 0 ? asked.pickers : asked.burden;
    }

    public int wear(int citizen, int n) {
        if (now.citizenAt(citizen) == null) {
            return refuse(0, NOBODY);
        }
        if (isOutside(n, 0, MOST_AHEAD)) {
            return refuse(0, WRONG);
        }
        trial.become(now);
        trial.passMornings(n);
        Citizen then = trial.citizenAt(citizen);
        return then == null ? NONE : then.wear;
    }

    public int unkept(int n, int what) {
        if (isOutside(what, 0, 1)) {
            return refuse(10, BEYOND);
        }
        if (isOutside(n, 0, MOST_AHEAD)) {
            return refuse(10, WRONG);
        }
        trial.become(now);
        return what == 0 ? trial.passMornings(n) : trial.firstHungryMorning(n);
    }

    // ---- WHAT COMES OF IT ----

    public int parting(int i) {
        if (i != NONE && (i < 0 || i >= now.countComing())) {
            return refuse(10, BEYOND);
        }
        int sum = now.partAll();
        if (i == NONE || sum == NONE) {
            return sum;
        }
        Beggar asked = now.comingAt(i);
        return asked == null ? NONE : asked.gets;
    }

    public int rests(int beggar) {
        Beggar asked = now.beggarAt(beggar);
        if (beggar != NONE && (asked == null || asked.hasPost)) {
            return refuse(10, NOBODY);
        }
        int rounds = now.comeToRest();
        return asked == null || rounds == NONE ? rounds : asked.at;
    }

    public int shun(int citizen, int what) {
        Citizen asked = now.citizenAt(citizen);
        if (asked == null || asked.isHidden) {
            return refuse(10, NOBODY);
        }
        if (isOutside(what, 0, 1)) {
            return refuse(10, BEYOND);
        }
        trial.become(now);
        for (int step = 0; step <= MOST_HEART; step++) {
            int heart = what == 0 ? MOST_HEART - step : step;
            if (trial.isPickedWithHeart(citizen, heart) == (what == 1)) {
                return heart;
            }
        }
        return NONE;
    }

    public int rules(int beggar, int citizen) {
        Beggar asked = now.beggarAt(beggar);
        if (asked == null || now.citizenAt(citizen) == null) {
            return refuse(0, NOBODY);
        }
        if (asked.hasPost) {
            return refuse(0, WRONG);
        }
        trial.become(now);
        int bits = 0;
        for (int rule = 0; rule < RULES; rule++) {
            if (trial.pickByRule(beggar, rule) == citizen) {
                bits |= 1 << rule;
            }
        }
        return bits;
    }

    public int hide() {
        now.goBy();
        return now.mostBurdened();
    }

    public int lose(int citizen) {
        Citizen asked = now.citizenAt(citizen);
        if (asked == null) {
            return refuse(100, NOBODY);
        }
        if (asked.isHidden) {
            return refuse(100, WRONG);
        }
        trial.become(now);
        int before = trial.hungryMorning();
        Citizen hidden = trial.citizenAt(citizen);
        if (hidden != null) {
            hidden.isHidden = true;
        }
        return trial.hungryMorning() - before;
    }

    public int best() {
        trial.become(now);
        int best = NONE;
        int fewest = 0;
        for (Beggar b : trial.beggars) {
            if (!b.comes()) {
                continue;
            }
            b.hasPost = true;
            int hungry = trial.hungryMorning();
            b.hasPost = false;
            if (best == NONE || hungry < fewest) {
                best = b.number;
                fewest = hungry;
            }
        }
        return best;
    }

    public int judge(int s, int n) {
        int wrong = noRow(s);
        if (wrong != 0) {
            return refuse(10, wrong);
        }
        if (n < 0) {
            return refuse(10, BELOW);
        }
        Shelf shelf = shelfAt(s);
        if (shelf == null || n > shelf.length) {
            return refuse(10, BEYOND);
        }
        if (n > MOST_AHEAD) {
            return refuse(10, WRONG);
        }
        now.goBy();
        return now.firstWrong(shelf, n);
    }

    // ---- IN TRUTH ----

    public int mornings(int n) {
        if (isOutside(n, 1, MOST_IN_TRUTH)) {
            return refuse(0, WRONG);
        }
        return now.passMornings(n);
    }

    public int winters(int n) {
        if (isOutside(n, 1, MOST_IN_TRUTH)) {
            return refuse(0, WRONG);
        }
        int hungry = 0;
        for (int i = 0; i < n; i++) {
            now.drawWhoHides();
            hungry += now.passMorning();
        }
        return hungry;
    }

    public int seed(int v) {
        int was = now.seed;
        now.seed = v;
        return was;
    }

    public int act(int citizen, int move, int x) {
        play.forget();
        Citizen actor = now.citizenAt(citizen);
        if (actor == null || move < 0 || move >= MOVES) {
            return 0;
        }
        return play.perform(actor, move, x);
    }

    public int trace(int i) {
        return play.bodyAt(i);
    }

    public int image() {
        taken.become(now);
        isTaken = true;
        return now.citizenCount;
    }

    public int restore() {
        if (!isTaken) {
            return refuse(0, WRONG);
        }
        now.become(taken);
        for (Shelf shelf : shelves) {
            if (shelf.hasCitizen() && now.citizenAt(shelf.citizen) == null) {
                shelf.takeCitizen(NONE);
            }
        }
        return now.citizenCount;
    }

    public int status(int what) {
        if (what > 10 && what - 10 < refused.length) {
            return refused[what - 10];
        }
        switch (what) {
            case 0: return now.citizenCount;
            case 1: return now.beggarCount;
            case 2: return now.morning;
            case 3: return now.wearTogether();
            case 4: return now.hungerTogether();
            case 5: return now.countHidden();
            case 6: return now.countPosts();
            case 7: return now.seed;
            case 8: return play.ran;
            default: return NONE;
        }
    }

    // ---- refusals ----

    private int refuse(int base, int which) {
        if (which >= 0 && which < refused.length) {
            refused[which]++;
        }
        return -base - which;
    }

    private Shelf shelfAt(int s) {
        return s >= 0 && s < shelves.length ? shelves[s] : null;
    }

    /** Which refusal a SHELF deserves where a ROW is wanted; 0: it holds one. */
    private int noRow(int s) {
        Shelf shelf = shelfAt(s);
        if (shelf == null) {
            return NOBODY;
        }
        if (shelf.hasCitizen()) {
            return OTHER;
        }
        return shelf.hasRow() ? 0 : NOTHING;
    }

    private static boolean isOutside(int v, int least, int most) {
        return v < least || v > most;
    }

    /** The greatest value that tell() takes; below 0 where there is nothing such to tell. */
    private static int mostToTell(int what) {
        switch (what) {
            case 0: return 1;
            case 1: return MOST_WEAR;
            case 2: return MOST_HEART;
            case 3: return MOST_MEANS;
            default: return NONE;
        }
    }

    private static int kindAbove(int kind) {
        return kind >= 0 && kind < KIND_ABOVE.length ? KIND_ABOVE[kind] : NONE;
    }

    /** Whether a KIND is the one wanted, or one under it. */
    private static boolean isUnder(int kind, int wanted) {
        int k = kind;
        for (int step = 0; step < KINDS && k != NONE; step++) {
            if (k == wanted) {
                return true;
            }
            k = kindAbove(k);
        }
        return false;
    }

    private static final class Citizen {
        private final int number;
        private boolean isHere;
        private boolean isHidden;
        private int kind;
        private int a;
        private int means;
        private int heart;
        private int wear;
        private int passed;
        // of the morning that was looked at last
        private int face;
        private int pickers;
        private int pickCount;
        private int counted;
        private int burden;
        // of a parting: NEEDS together; of a rest: how many are there
        private int load;

        private Citizen(int number) {
            this.number = number;
        }

        private void become(Citizen other) {
            isHere = other.isHere;
            isHidden = other.isHidden;
            kind = other.kind;
            a = other.a;
            means = other.means;
            heart = other.heart;
            wear = other.wear;
            passed = other.passed;
        }

        private void arrive(int newKind, int newA, int newMeans, int newHeart) {
            isHere = true;
            isHidden = false;
            kind = newKind;
            a = newA;
            means = newMeans;
            heart = newHeart;
            wear = 0;
            passed = 0;
        }

        private boolean isOpen() {
            return isHere && !isHidden;
        }

        private int faceNow() {
            return Math.max(0, Math.min(MOST_FACE, unboundedFace()));
        }

        private int unboundedFace() {
            int plain = heart - wear / 10;
            int sour = plain / 2;
            int anxious = plain + passed;
            switch (kind) {
                case WORN: return heart - wear / 5;
                case SOUR: return sour;
                case HIRED: return sour + a;
                case MEAN: return sour + a - 3;
                case ANXIOUS: return anxious;
                case EMPTY: return means == 0 ? anxious + 1 : anxious;
                default: return plain;
            }
        }

        private int saysAs(int wanted) {
            switch (wanted) {
                case CITIZEN: return faceNow();
                case WORN: return wear;
                case ANXIOUS: return passed;
                case EMPTY: return passed;
                default: return a;
            }
        }

        private int becomes(int what, int v) {
            int was;
            switch (what) {
                case 0:
                    was = isHidden ? 1 : 0;
                    isHidden = v == 1;
                    return was;
                case 1:
                    was = wear;
                    wear = v;
                    return was;
                case 2:
                    was = heart;
                    heart = v;
                    return was;
                default:
                    was = means;
                    means = v;
                    return was;
            }
        }

        private void beginMorning() {
            face = faceNow();
            pickers = 0;
            pickCount = 0;
            counted = 0;
            burden = 0;
        }

        private void receive(Beggar b) {
            b.pick = number;
            pickers |= 1 << b.number;
            pickCount++;
            b.isKept = keeps(b.need);
        }

        private boolean keeps(int need) {
            boolean isBesides = kind == EMPTY && need <= a;
            if (!isBesides && counted + need > means) {
                return false;
            }
            if (!isBesides) {
                counted += need;
            }
            burden += need;
            return true;
        }

        private void endMorning() {
            if (!isHere) {
                return;
            }
            if (pickers == 0) {
                wear = Math.max(0, wear - 2);
                passed = Math.min(MOST_PASSED, passed + 1);
            } else {
                wear = Math.min(MOST_WEAR, wear + burden);
                passed = 0;
            }
        }

        /** What each of so many has here, of whom one needs so much. */
        private int share(int crowd, int need) {
            return crowd > 0 ? Math.min(need, means / crowd) : 0;
        }
    }

    private static final class Beggar {
        private final int number;
        private boolean isHere;
        private boolean hasPost;
        private int need;
        private int rule;
        private int last = NONE;
        private int hunger;
        // of the morning that was looked at last
        private int pick = NONE;
        private boolean isKept;
        // of a parting: whom he is tried with, whom he gets
        private int tried = NONE;
        private int gets = NONE;
        // of a rest: at whom he is
        private int at = NONE;

        private Beggar(int number) {
            this.number = number;
        }

        private void become(Beggar other) {
            isHere = other.isHere;
            hasPost = other.hasPost;
            need = other.need;
            rule = other.rule;
            last = other.last;
            hunger = other.hunger;
        }

        private void arrive(int newNeed, int newRule) {
            isHere = true;
            hasPost = false;
            need = newNeed;
            rule = newRule;
            last = NONE;
            hunger = 0;
        }

        private boolean comes() {
            return isHere && !hasPost;
        }

        private void endMorning() {
            if (!comes()) {
                return;
            }
            if (pick != NONE) {
                last = pick;
            }
            hunger = isKept ? 0 : Math.min(MOST_HUNGER, hunger + 1);
        }
    }

    private static final class City {
        private final Citizen[] citizens = new Citizen[MOST_PEOPLE];
        private final Beggar[] beggars = new Beggar[MOST_PEOPLE];
        private int citizenCount;
        private int beggarCount;
        private int morning;
        private int seed = 1;
        // of a parting: the least greatest sum so far, and what it can't be under
        private int leastLoad;
        private int floorLoad;

        private City() {
            for (int i = 0; i < citizens.length; i++) {
                citizens[i] = new Citizen(i);
            }
            for (int i = 0; i < beggars.length; i++) {
                beggars[i] = new Beggar(i);
            }
        }

        private void become(City other) {
            for (int i = 0; i < citizens.length && i < other.citizens.length; i++) {
                citizens[i].become(other.citizens[i]);
            }
            for (int i = 0; i < beggars.length && i < other.beggars.length; i++) {
                beggars[i].become(other.beggars[i]);
            }
            citizenCount = other.citizenCount;
            beggarCount = other.beggarCount;
            morning = other.morning;
            seed = other.seed;
        }

        private Citizen citizenAt(int i) {
            return i >= 0 && i < citizens.length && i < citizenCount ? citizens[i] : null;
        }

        private Beggar beggarAt(int i) {
            return i >= 0 && i < beggars.length && i < beggarCount ? beggars[i] : null;
        }

        /** The new one's number; NONE: there is no room. */
        private int addCitizen(int kind, int a, int means, int heart) {
            int number = citizenCount;
            if (number < 0 || number >= citizens.length) {
                return NONE;
            }
            citizens[number].arrive(kind, a, means, heart);
            citizenCount++;
            return number;
        }

        /** The new one's number; NONE: there is no room. */
        private int addBeggar(int need, int rule) {
            int number = beggarCount;
            if (number < 0 || number >= beggars.length) {
                return NONE;
            }
            beggars[number].arrive(need, rule);
            beggarCount++;
            return number;
        }

        private int countOpen() {
            int count = 0;
            for (Citizen c : citizens) {
                if (c.isOpen()) {
                    count++;
                }
            }
            return count;
        }

        private int countHidden() {
            return citizenCount - countOpen();
        }

        private int countComing() {
            int count = 0;
            for (Beggar b : beggars) {
                if (b.comes()) {
                    count++;
                }
            }
            return count;
        }

        private int countPosts() {
            return beggarCount - countComing();
        }

        private int wearTogether() {
            int sum = 0;
            for (Citizen c : citizens) {
                if (c.isHere) {
                    sum += c.wear;
                }
            }
            return sum;
        }

        private int hungerTogether() {
            int sum = 0;
            for (Beggar b : beggars) {
                if (b.isHere) {
                    sum += b.hunger;
                }
            }
            return sum;
        }

        /** The i-th of those who come, or null. */
        private Beggar comingAt(int i) {
            int left = i;
            for (Beggar b : beggars) {
                if (b.comes()) {
                    if (left == 0) {
                        return b;
                    }
                    left--;
                }
            }
            return null;
        }

        /** The i-th of those who don't hide, or null. */
        private Citizen openAt(int i) {
            int left = i;
            for (Citizen c : citizens) {
                if (c.isOpen()) {
                    if (left == 0) {
                        return c;
                    }
                    left--;
                }
            }
            return null;
        }

        // ---- a morning ----

        /** THE FILE goes by; what comes of it is noted with each, and nothing else is changed. */
        private void goBy() {
            for (Citizen c : citizens) {
                c.beginMorning();
            }
            for (Beggar b : beggars) {
                b.pick = NONE;
                b.isKept = false;
                Citizen chosen = b.comes() ? chosenBy(b) : null;
                if (chosen != null) {
                    chosen.receive(b);
                }
            }
        }

        private Citizen chosenBy(Beggar b) {
            switch (b.rule) {
                case BY_FACES: return greatestFace();
                case BY_ANGER: return leastFace();
                case BY_FEWEST: return fewestPicked();
                case BLIND: return openAt(blindPlace(b, countOpen()));
                case FAITHFUL: return canStay(b) ? citizenAt(b.last) : greatestFace();
                default: return null;
            }
        }

        private Citizen greatestFace() {
            Citizen chosen = null;
            for (Citizen c : citizens) {
                if (c.isOpen() && (chosen == null || c.face > chosen.face)) {
                    chosen = c;
                }
            }
            return chosen;
        }

        private Citizen leastFace() {
            Citizen chosen = null;
            for (Citizen c : citizens) {
                if (c.isOpen() && (chosen == null || c.face < chosen.face)) {
                    chosen = c;
                }
            }
            return chosen;
        }

        private Citizen fewestPicked() {
            Citizen chosen = null;
            for (Citizen c : citizens) {
                if (!c.isOpen()) {
                    continue;
                }
                if (chosen == null || c.pickCount < chosen.pickCount
                        || (c.pickCount == chosen.pickCount && c.face > chosen.face)) {
                    chosen = c;
                }
            }
            return chosen;
        }

        /** The place, among so many who don't hide, that he comes to blind by step; NONE: none is there. */
        private int blindPlace(Beggar b, int open) {
            return open > 0 ? (b.number + morning) % open : NONE;
        }

        private boolean canStay(Beggar b) {
            Citizen last = citizenAt(b.last);
            return last != null && last.isOpen();
        }

        private int keptBits() {
            int bits = 0;
            for (Beggar b : beggars) {
                if (b.isKept) {
                    bits |= 1 << b.number;
                }
            }
            return bits;
        }

        private int countUnkept() {
            int count = 0;
            for (Beggar b : beggars) {
                if (b.comes() && !b.isKept) {
                    count++;
                }
            }
            return count;
        }

        /** How many would go unkept this morning. */
        private int hungryMorning() {
            goBy();
            return countUnkept();
        }

        /** A morning in truth: how many went unkept. */
        private int passMorning() {
            goBy();
            int hungry = countUnkept();
            for (Citizen c : citizens) {
                c.endMorning();
            }
            for (Beggar b : beggars) {
                b.endMorning();
            }
            morning++;
            return hungry;
        }

        private int passMornings(int n) {
            int hungry = 0;
            for (int i = 0; i < n; i++) {
                hungry += passMorning();
            }
            return hungry;
        }

        private int firstHungryMorning(int n) {
            for (int i = 1; i <= n; i++) {
                if (passMorning() > 0) {
                    return i;
                }
            }
            return NONE;
        }

        private int draw(int n) {
            seed = seed * 1103515245 + 12345;
            return n > 0 ? (seed >>> 16) % n : 0;
        }

        private void drawWhoHides() {
            for (Citizen c : citizens) {
                if (c.isHere) {
                    c.isHidden = draw(10) < c.wear / 10;
                }
            }
        }

        private boolean isPickedWithHeart(int citizen, int heart) {
            Citizen c = citizenAt(citizen);
            if (c == null) {
                return false;
            }
            c.heart = heart;
            goBy();
            return c.pickers != 0;
        }

        private int pickByRule(int beggar, int rule) {
            Beggar b = beggarAt(beggar);
            if (b == null) {
                return NONE;
            }
            b.rule = rule;
            goBy();
            return b.pick;
        }

        /** Who has the greatest BURDEN of the morning looked at; NONE: none has any. */
        private int mostBurdened() {
            int most = 0;
            int chosen = NONE;
            for (Citizen c : citizens) {
                if (c.isOpen() && c.burden > most) {
                    most = c.burden;
                    chosen = c.number;
                }
            }
            return chosen;
        }

        /** Where the first n elements first differ from the morning looked at; NONE. */
        private int firstWrong(Shelf told, int n) {
            int place = 0;
            for (Beggar b : beggars) {
                if (!b.comes()) {
                    continue;
                }
                if (place >= n || told.getInt(place) != b.pick) {
                    return place;
                }
                place++;
            }
            return place < n ? place : NONE;
        }

        // ---- parting ----

        /** The least greatest sum, with whom each gets noted with him; NONE: it can't be. */
        private int partAll() {
            int sum = 0;
            for (Beggar b : beggars) {
                sum += b.comes() ? b.need : 0;
            }
            for (Citizen c : citizens) {
                c.load = 0;
            }
            int open = countOpen();
            floorLoad = open > 0 ? (sum + open - 1) / open : 0;
            leastLoad = NO_LOAD;
            partFrom(0, 0);
            return leastLoad == NO_LOAD ? NONE : leastLoad;
        }

        /** Tries all for the beggars from the i-th on; in the order of the rows, so that the first best stays. */
        private void partFrom(int i, int greatest) {
            if (i < 0 || i >= beggars.length) {
                notePart(greatest);
                return;
            }
            if (beggars[i].comes()) {
                tryEach(beggars[i], greatest);
            } else {
                partFrom(i + 1, greatest);
            }
        }

        private void tryEach(Beggar b, int greatest) {
            for (Citizen c : citizens) {
                int load = c.load + b.need;
                if (!c.isOpen() || load > c.means || Math.max(greatest, load) >= leastLoad) {
                    continue;
                }
                c.load = load;
                b.tried = c.number;
                partFrom(b.number + 1, Math.max(greatest, load));
                c.load = load - b.need;
                if (leastLoad <= floorLoad) {
                    return;
                }
            }
        }

        private void notePart(int greatest) {
            leastLoad = greatest;
            for (Beggar b : beggars) {
                b.gets = b.tried;
            }
        }

        // ---- each for himself ----

        /** How many rounds went with a move, with where each is noted with him; NONE: no rest, or all hide. */
        private int comeToRest() {
            Citizen first = openAt(0);
            if (first == null) {
                return NONE;
            }
            for (Citizen c : citizens) {
                c.load = 0;
            }
            for (Beggar b : beggars) {
                if (b.comes()) {
                    b.at = first.number;
                    first.load++;
                }
            }
            for (int rounds = 0; rounds <= MOST_ROUNDS; rounds++) {
                if (!moveAll()) {
                    return rounds;
                }
            }
            return NONE;
        }

        private boolean moveAll() {
            boolean isMoved = false;
            for (Beggar b : beggars) {
                if (b.comes() && moveOne(b)) {
                    isMoved = true;
                }
            }
            return isMoved;
        }

        private boolean moveOne(Beggar b) {
            Citizen from = citizenAt(b.at);
            if (from == null) {
                return false;
            }
            Citizen to = from;
            int most = from.share(from.load, b.need);
            for (Citizen c : citizens) {
                if (!c.isOpen() || c == from) {
                    continue;
                }
                int has = c.share(c.load + 1, b.need);
                if (has > most) {
                    most = has;
                    to = c;
                }
            }
            if (to == from) {
                return false;
            }
            from.load--;
            to.load++;
            b.at = to.number;
            return true;
        }
    }

    /** Holds nothing, a row, or a citizen's number. */
    private static final class Shelf {
        private final long[] elements = new long[MOST_ELEMENTS];
        private int sort = NONE;
        private int length;
        private int citizen = NONE;

        private Shelf() {
        }

        private void takeRow(int newSort, int n) {
            sort = newSort;
            length = Math.max(0, Math.min(n, elements.length));
            citizen = NONE;
            for (int i = 0; i < elements.length; i++) {
                elements[i] = 0L;
            }
        }

        private void takeCitizen(int number) {
            sort = NONE;
            length = 0;
            citizen = number;
        }

        private boolean hasRow() {
            return sort != NONE;
        }

        private boolean hasCitizen() {
            return citizen != NONE;
        }

        private boolean differsInSort(Shelf other) {
            return hasRow() && other.hasRow() && sort != other.sort;
        }

        private boolean hasElement(int i) {
            return i >= 0 && i < length && i < elements.length;
        }

        private boolean hasStretch(int i, int n) {
            return i >= 0 && n >= 0 && n <= length - i;
        }

        private long get(int i) {
            return hasElement(i) ? elements[i] : 0L;
        }

        private int getInt(int i) {
            return (int) get(i);
        }

        private void put(int i, long v) {
            if (!hasElement(i)) {
                return;
            }
            switch (sort) {
                case BYTES: elements[i] = (byte) v; break;
                case SHORTS: elements[i] = (short) v; break;
                case INTS: elements[i] = (int) v; break;
                case LONGS: elements[i] = v; break;
                default: break;
            }
        }

        private void takeElements(Shelf from, int i, int j, int n) {
            if (from.hasStretch(i, n) && hasStretch(j, n)) {
                System.arraycopy(from.elements, i, elements, j, n);
            }
        }
    }

    /** Reads a city's text from a row of letters. */
    private static final class Reader {
        private final int[] signs = new int[MOST_ELEMENTS];
        private int length;
        private int place;
        private int fault = NONE;

        private Reader() {
        }

        /** How many items it told to the city; NONE: a fault, and the city is told a part only. */
        private int read(Shelf row, City city) {
            length = row.length;
            for (int i = 0; i < signs.length; i++) {
                signs[i] = row.getInt(i);
            }
            place = 0;
            fault = NONE;
            for (int items = 1; items <= MOST_ELEMENTS; items++) {
                if (!readItem(city)) {
                    return NONE;
                }
                if (place >= length) {
                    return items;
                }
                if (!readSign(';')) {
                    return NONE;
                }
            }
            return NONE;
        }

        private boolean readItem(City city) {
            int start = place;
            int word = readWord();
            if (word == WORD_CITIZEN) {
                return hasRoom(city.citizenCount, start) && readCitizen(city);
            }
            if (word == WORD_BEGGAR) {
                return hasRoom(city.beggarCount, start) && readBeggar(city);
            }
            if (word == WORD_POST) {
                return readPost(city);
            }
            return word != NONE && readOfCitizen(city, word);
        }

        private boolean hasRoom(int count, int start) {
            return count < MOST_PEOPLE || failAt(start);
        }

        private boolean readCitizen(City city) {
            int kind = readNumber(0, KINDS - 1);
            int a = kind == NONE ? NONE : readNumber(0, MOST_A);
            int means = a == NONE ? NONE : readNumber(0, MOST_MEANS);
            int heart = means == NONE ? NONE : readNumber(0, MOST_HEART);
            return heart != NONE && city.addCitizen(kind, a, means, heart) != NONE;
        }

        private boolean readBeggar(City city) {
            int need = readNumber(1, MOST_NEED);
            int rule = need == NONE ? NONE : readNumber(0, RULES - 1);
            return rule != NONE && city.addBeggar(need, rule) != NONE;
        }

        private boolean readPost(City city) {
            Beggar b = city.beggarAt(readNumber(0, city.beggarCount - 1));
            if (b == null) {
                return false;
            }
            b.hasPost = true;
            return true;
        }

        private boolean readOfCitizen(City city, int word) {
            Citizen c = city.citizenAt(readNumber(0, city.citizenCount - 1));
            if (c == null) {
                return false;
            }
            if (word != WORD_WEAR) {
                c.isHidden = word == WORD_HIDES;
                return true;
            }
            int wear = readNumber(0, MOST_WEAR);
            if (wear == NONE) {
                return false;
            }
            c.wear = wear;
            return true;
        }

        /** Which word stands here; NONE: none does, and the fault is where the one that comes furthest breaks off. */
        private int readWord() {
            int furthest = 0;
            for (int w = 0; w < WORDS; w++) {
                String word = wordAt(w);
                int letters = countLetters(word);
                if (letters == word.length()) {
                    place += letters;
                    return w;
                }
                furthest = Math.max(furthest, letters);
            }
            failAt(place + furthest);
            return NONE;
        }

        private static String wordAt(int w) {
            switch (w) {
                case WORD_CITIZEN: return "citizen";
                case WORD_BEGGAR: return "beggar";
                case WORD_WEAR: return "wear";
                case WORD_HIDES: return "hides";
                case WORD_COMES: return "comes";
                default: return "post";
            }
        }

        /** How many letters of a word stand here before it breaks off. */
        private int countLetters(String word) {
            int letters = 0;
            while (letters < word.length() && signAt(place + letters) == word.charAt(letters)) {
                letters++;
            }
            return letters;
        }

        /** A blank and a number, from least to most; NONE: a fault. */
        private int readNumber(int least, int most) {
            if (!readSign(' ')) {
                return NONE;
            }
            int start = place;
            if (!isDigit(place)) {
                failAt(place);
                return NONE;
            }
            int number = signAt(place) - '0';
            place++;
            if (isDigit(place)) {
                number = number * 10 + signAt(place) - '0';
                place++;
            }
            if (isOutside(number, least, most)) {
                failAt(start);
                return NONE;
            }
            return number;
        }

        private boolean readSign(char wanted) {
            if (signAt(place) != wanted) {
                return failAt(place);
            }
            place++;
            return true;
        }

        private boolean isDigit(int i) {
            return signAt(i) >= '0' && signAt(i) <= '9';
        }

        /** Behind the end there is no sign at all, which is told by a number that no sign has. */
        private int signAt(int i) {
            return i >= 0 && i < length && i < signs.length ? signs[i] : NONE;
        }

        private boolean failAt(int i) {
            fault = i;
            return false;
        }
    }

    /** Performs the moves of a citizen and keeps their trace. */
    private static final class Play {
        private final int[] bodies = new int[MOST_BODIES_KEPT];
        private int ran;
        private int actorKind;
        private int m;
        private int k;

        private Play() {
        }

        private void forget() {
            ran = 0;
        }

        private int bodyAt(int i) {
            return i >= 0 && i < ran && i < bodies.length ? bodies[i] : NONE;
        }

        private int perform(Citizen actor, int move, int x) {
            actorKind = actor.kind;
            m = actor.number;
            k = actor.a;
            return run(actorKind, move, x, 0);
        }

        private void begin(int body) {
            if (ran >= 0 && ran < bodies.length) {
                bodies[ran] = body;
            }
            ran++;
        }

        /** The body of a kind, or of the next above that has one. */
        private int run(int kind, int move, int x, int depth) {
            if (depth > MOST_DEPTH) {
                return 0;
            }
            int owner = ownerOf(kind, move);
            int body = bodyOf(owner, move);
            begin(body);
            return answer(body, kindAbove(owner), x, depth + 1);
        }

        private int answer(int body, int above, int x, int d) {
            switch (body) {
                case 10: return x + m;
                case 11: return run(actorKind, LOOKS, x, d) * 2;
                case 12: return run(actorKind, GIVES, x, d) ^ run(actorKind, LOOKS, x - k, d);
                case 20: return run(above, GIVES, x, d) + k;
                case 30: return run(above, LOOKS, x, d) * 3;
                case 40: return run(above, LOOKS, x + 1, d);
                case 50: return -run(above, SHUTS, x, d);
                case 51: return run(above, LOOKS, x, d) - m;
                case 60: return run(above, SHUTS, x, d) ^ 5;
                case 70: return run(above, LOOKS, x, d) * 2;
                case 71: return run(above, GIVES, x - k, d);
                default: return 0;
            }
        }

        private static int ownerOf(int kind, int move) {
            int owner = kind;
            for (int step = 0; step < KINDS && bodyOf(owner, move) == 0; step++) {
                owner = kindAbove(owner);
            }
            return owner;
        }

        private static int bodyOf(int kind, int move) {
            int i = kind * MOVES + move;
            return kind >= 0 && move >= 0 && move < MOVES && i >= 0 && i < BODIES.length ? BODIES[i] : 0;
        }
    }
}
