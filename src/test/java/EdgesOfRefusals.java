/** REFUSALS, promise by promise: what is refused and what is not yet, in which order, and that nothing else changes. */
final class EdgesOfRefusals {
    private static final String NO_SUCH = "-1 NOBODY: no such SHELF, CITIZEN, BEGGAR, KIND.";
    private static final String OTHER = "-2 OTHER: a SHELF that holds a CITIZEN where a ROW is wanted, or the other way about";
    private static final String NOTHING = "-3 NOTHING: a SHELF that holds NOTHING.";
    private static final String BELOW = "-4 BELOW: a size below 0.";
    private static final String BEYOND = "-5 BEYOND: an element that isn't there; nothing such to be told of.";
    private static final String WRONG = "-6 WRONG: a number that may not be, a FAULT, what can't be as things stand.";
    private static final String ROOM = "-7 ROOM: more than may be.";
    private static final String ORDER = "the first that fits, in this order";

    private static final int MIN = Integer.MIN_VALUE;
    private static final int MAX = Integer.MAX_VALUE;

    /** A call with one of its numbers left open. */
    private interface OpenCall {
        long on(Run x, int v);
    }

    private EdgesOfRefusals() {
    }

    static void all() {
        row();
        set();
        copy();
        copyOrder();
        show();
        says();
        citizen();
        beggar();
        tell();
        post();
        ofPeople();
        city();
        picks();
        picked();
        wear();
        unkept();
        parting();
        rests();
        shun();
        rules();
        lose();
        judge();
        judgeOrder();
        inTruth();
        restore();
        notRefused();
        together();
    }

    private static void refused(Edge.Call call, int answer) {
        Edge.refused(Scenes::full, call, answer);
    }

    private static void stands(Edge.Call call, long answer) {
        Run x = Edge.after(Scenes::full);
        x.due(call.on(x), answer);
    }

    /** One below, one above, and the farthest on both sides are refused. */
    private static void outside(int least, int most, OpenCall call, int answer) {
        outside(Scenes::full, least, most, call, answer);
    }

    private static void outside(Edge.Calls calls, int least, int most, OpenCall call, int answer) {
        for (int v : new int[] {MIN, least - 1, most + 1, MAX}) {
            Edge.refused(calls, x -> call.on(x, v), answer);
        }
    }

    private static void row() {
        Edge.of("2", NO_SUCH, () -> {
            outside(0, 7, (x, s) -> x.row(s, 0, 1), -1);
            stands(x -> x.row(0, 0, 1), 1);
            stands(x -> x.row(7, 0, 1), 1);
        });
        Edge.of("2", BELOW, () -> {
            refused(x -> x.row(0, 0, -1), -4);
            refused(x -> x.row(0, 0, MIN), -4);
            stands(x -> x.row(0, 0, 0), 1);
            stands(x -> x.row(0, 0, 1), 1);
        });
        Edge.of("2", "-1; -4; -6 SORT; -7 n above 160.", () -> {
            outside(0, 3, (x, sort) -> x.row(0, sort, 1), -6);
            for (int sort = 0; sort < 4; sort++) {
                int some = sort;
                stands(x -> x.row(0, some, 1), 1);
            }
        });
        Edge.of("2", "-7 n above 160", () -> {
            stands(x -> x.row(0, 0, 159), 1);
            stands(x -> x.row(0, 0, 160), 1);
            refused(x -> x.row(0, 0, 161), -7);
            refused(x -> x.row(0, 0, MAX), -7);
            refused(x -> x.row(3, 3, 161), -7);
        });
        Edge.of("2", ORDER, () -> {
            refused(x -> x.row(8, 4, -1), -1);
            refused(x -> x.row(8, 0, -1), -1);
            refused(x -> x.row(-1, 4, 1), -1);
            refused(x -> x.row(-1, 0, 161), -1);
            refused(x -> x.row(2, 4, -1), -4);
            refused(x -> x.row(2, -1, 161), -6);
        });
    }

    private static void set() {
        Edge.of("3", NO_SUCH, () -> {
            outside(0, 7, (x, s) -> x.set(s, 0, 1L), -1);
            stands(x -> x.set(0, 0, 1L), 1);
            stands(x -> x.set(7, 0, 1L), 1);
        });
        Edge.of("3", OTHER, () -> {
            refused(x -> x.set(2, 0, 1L), -2);
            refused(x -> x.set(6, 0, 1L), -2);
        });
        Edge.of("3", NOTHING, () -> refused(x -> x.set(3, 0, 1L), -3));
        Edge.of("3", BEYOND, () -> {
            outside(0, 4, (x, i) -> x.set(0, i, 1L), -5);
            outside(0, 159, (x, i) -> x.set(5, i, 1L), -5);
            stands(x -> x.set(0, 0, 1L), 1);
            stands(x -> x.set(0, 4, 1L), 1);
            stands(x -> x.set(5, 159, 1L), 1);
            Edge.refused(x -> x.row(0, 3, 0), x -> x.set(0, 0, 1L), -5);
        });
        Edge.of("3", "Element i of the ROW becomes v: 1. -1; -2; -3; -5.", () -> {
            Edge.changes(Scenes::full, x -> x.set(0, 0, 77L), 1, "element(0, 0)", 77);
            Edge.changes(Scenes::full, x -> x.set(0, 4, 77L), 1, "element(0, 4)", 77);
            Edge.changes(Scenes::full, x -> x.set(5, 159, -1L), 1, "element(5, 159)", -1);
            Edge.changes(Scenes::full, x -> x.set(4, 0, Long.MIN_VALUE), 1, "element(4, 0)", Long.MIN_VALUE);
            refused(x -> x.set(8, 0, 77L), -1);
            refused(x -> x.set(2, 0, 77L), -2);
            refused(x -> x.set(3, 0, 77L), -3);
            refused(x -> x.set(0, 5, 77L), -5);
        });
        Edge.of("3", ORDER, () -> {
            refused(x -> x.set(8, -1, 1L), -1);
            refused(x -> x.set(-1, MAX, 1L), -1);
            refused(x -> x.set(2, -1, 1L), -2);
            refused(x -> x.set(3, -1, 1L), -3);
        });
    }

    private static void copy() {
        Edge.of("4", NO_SUCH, () -> {
            outside(0, 7, (x, p) -> x.copy(p, 7, 0, 0, 1), -1);
            outside(0, 7, (x, q) -> x.copy(0, q, 0, 0, 1), -1);
            stands(x -> x.copy(7, 1, 0, 0, 1), 1);
            stands(x -> x.copy(1, 7, 0, 0, 1), 1);
            stands(x -> x.copy(0, 0, 0, 0, 1), 1);
        });
        Edge.of("4", OTHER, () -> {
            refused(x -> x.copy(2, 0, 0, 0, 1), -2);
            refused(x -> x.copy(0, 2, 0, 0, 1), -2);
            refused(x -> x.copy(2, 6, 0, 0, 1), -2);
            refused(x -> x.copy(2, 2, 0, 0, 0), -2);
        });
        Edge.of("4", "-2 also of two SORTS (when both hold something); -3 either", () -> {
            int[] shelfOfSort = {1, 5, 0, 4};
            for (int p : shelfOfSort) {
                for (int q : shelfOfSort) {
                    if (p == q) {
                        stands(x -> x.copy(p, q, 0, 0, 1), 1);
                    } else {
                        refused(x -> x.copy(p, q, 0, 0, 1), -2);
                    }
                }
                refused(x -> x.copy(p, 3, 0, 0, 1), -3);
                refused(x -> x.copy(3, p, 0, 0, 1), -3);
            }
            refused(x -> x.copy(3, 3, 0, 0, 0), -3);
        });
        Edge.of("4", BELOW, () -> {
            refused(x -> x.copy(0, 0, 0, 0, -1), -4);
            refused(x -> x.copy(0, 0, 0, 0, MIN), -4);
            stands(x -> x.copy(0, 0, 0, 0, 0), 1);
            stands(x -> x.copy(0, 0, 0, 0, 1), 1);
        });
        Edge.of("4", "-4 n; -5 i or j below 0, or an end that isn't there.", () -> {
            refused(x -> x.copy(1, 7, -1, 0, 1), -5);
            refused(x -> x.copy(1, 7, 0, -1, 1), -5);
            refused(x -> x.copy(1, 7, MIN, 0, 1), -5);
            refused(x -> x.copy(1, 7, 0, MIN, 1), -5);
            refused(x -> x.copy(1, 7, -1, -1, 0), -5);
            stands(x -> x.copy(1, 7, 0, 0, 3), 1);
            refused(x -> x.copy(1, 7, 0, 0, 4), -5);
            stands(x -> x.copy(1, 7, 2, 14, 1), 1);
            refused(x -> x.copy(1, 7, 3, 14, 1), -5);
            refused(x -> x.copy(1, 7, 2, 15, 1), -5);
            stands(x -> x.copy(7, 1, 12, 0, 3), 1);
            refused(x -> x.copy(7, 1, 13, 0, 3), -5);
            refused(x -> x.copy(7, 1, 12, 1, 3), -5);
            stands(x -> x.copy(1, 7, 3, 15, 0), 1);
            refused(x -> x.copy(1, 7, 4, 15, 0), -5);
            refused(x -> x.copy(1, 7, 3, 16, 0), -5);
            stands(x -> x.copy(5, 5, 0, 0, 160), 1);
            refused(x -> x.copy(5, 5, 0, 0, 161), -5);
        });
        Edge.of("4", "an end that isn't there", () -> {
            refused(x -> x.copy(0, 0, MAX, 0, 1), -5);
            refused(x -> x.copy(0, 0, 0, MAX, 1), -5);
            refused(x -> x.copy(0, 0, 0, 0, MAX), -5);
            refused(x -> x.copy(0, 0, 1, 1, MAX), -5);
            refused(x -> x.copy(0, 0, MAX, MAX, MAX), -5);
            refused(x -> x.copy(0, 0, MAX, MAX, 0), -5);
            refused(x -> x.copy(0, 0, MIN, 0, MAX), -5);
            refused(x -> x.copy(0, 0, 0, MIN, MAX), -5);
        });
    }

    private static void copyOrder() {
        Edge.of("4", ORDER, () -> {
            refused(x -> x.copy(8, 2, -1, 0, -1), -1);
            refused(x -> x.copy(2, 8, -1, 0, -1), -1);
            refused(x -> x.copy(3, 8, 0, 0, 1), -1);
            refused(x -> x.copy(8, 3, 0, 0, 1), -1);
            refused(x -> x.copy(0, -1, 0, 0, -1), -1);
            refused(x -> x.copy(0, -1, -1, 0, 1), -1);
            refused(x -> x.copy(2, 0, 0, 0, -1), -2);
            refused(x -> x.copy(2, 0, -1, 0, 1), -2);
            refused(x -> x.copy(0, 1, 0, 0, -1), -2);
            refused(x -> x.copy(0, 1, 9, 9, 9), -2);
            refused(x -> x.copy(3, 0, 0, 0, -1), -3);
            refused(x -> x.copy(0, 3, -1, 0, 1), -3);
            refused(x -> x.copy(0, 0, -1, 0, -1), -4);
            refused(x -> x.copy(0, 0, 0, 9, -1), -4);
        });
        Edge.of("4", "A CITIZEN in either SHELF of copy is refused for -2 ahead of -3.", () -> {
            refused(x -> x.copy(2, 3, 0, 0, 1), -2);
            refused(x -> x.copy(3, 2, 0, 0, 1), -2);
            refused(x -> x.copy(3, 3, 0, 0, 1), -3);
        });
    }

    private static void show() {
        Edge.of("6", NO_SUCH, () -> {
            outside(0, 7, (x, s) -> x.show(s, 0), -1);
            outside(0, 7, (x, s) -> x.show(s, -1), -1);
            outside(-1, 3, (x, c) -> x.show(0, c), -1);
            outside(-1, 3, (x, c) -> x.show(2, c), -1);
            stands(x -> x.show(0, 0), 1);
            stands(x -> x.show(7, 3), 1);
            Edge.refused(Scenes::empty, x -> x.show(0, 0), -1);
            Edge.refused(Scenes::crowded, x -> x.show(0, 6), -1);
        });
        Edge.of("6", "SHELF s holds a CITIZEN, or NOTHING (citizen NONE): 1, 0. -1.", () -> {
            for (int s = 0; s < 8; s++) {
                Run x = Edge.after(Scenes::full);
                x.due(x.show(s, 0), 1);
                x.due(x.holds(s), 0);
                x.due(x.element(s, 0), 0);
                x.due(x.show(s, -1), 0);
                x.due(x.holds(s), -1);
                x.due(x.show(s, 3), 1);
                x.due(x.holds(s), 3);
            }
            Run x = new Run();
            x.due(x.show(0, -1), 0);
            x.due(x.status(11), 0);
        });
    }

    private static void says() {
        Edge.of("8", NO_SUCH, () -> {
            outside(0, 7, (x, s) -> x.says(s, 0), -1);
            outside(0, 6, (x, kind) -> x.says(2, kind), -1);
            stands(x -> x.says(2, 3), 4);
        });
        Edge.of("8", "-1 SHELF, KIND; -2 also a CITIZEN of another KIND; -3.", () -> {
            refused(x -> x.says(0, 0), -2);
            int[] isUnder = {1, 0, 1, 1, 0, 0, 0};
            for (int kind = 0; kind < 7; kind++) {
                int some = kind;
                if (isUnder[kind] == 0) {
                    refused(x -> x.says(2, some), -2);
                }
            }
            refused(x -> x.says(3, 0), -3);
            refused(x -> x.says(3, 6), -3);
        });
        Edge.of("8", "a CITIZEN who isn't of the KIND wanted, or one under it.", () -> {
            Edge.Calls hired = x -> {
                x.citizen(3, 7, 0, 0);
                x.citizen(2, 5, 0, 0);
                x.citizen(6, 6, 0, 0);
                x.show(0, 0);
                x.show(1, 1);
                x.show(2, 2);
            };
            // who is wanted, one above him, one under him
            Edge.unchanged(hired, x -> x.says(0, 3), 7);
            Edge.refused(hired, x -> x.says(1, 3), -2);
            Edge.unchanged(hired, x -> x.says(2, 3), 6);
        });
        Edge.of("8", ORDER, () -> {
            refused(x -> x.says(0, 7), -1);
            refused(x -> x.says(2, 7), -1);
            refused(x -> x.says(3, 7), -1);
            refused(x -> x.says(8, -1), -1);
        });
    }

    private static void citizen() {
        Edge.of("9", NO_SUCH, () -> {
            outside(0, 6, (x, kind) -> x.citizen(kind, 0, 0, 0), -1);
            stands(x -> x.citizen(0, 0, 0, 0), 4);
            stands(x -> x.citizen(6, 0, 0, 0), 4);
        });
        Edge.of("9", WRONG, () -> {
            outside(0, 9, (x, a) -> x.citizen(0, a, 0, 0), -6);
            outside(0, 99, (x, means) -> x.citizen(0, 0, means, 0), -6);
            outside(0, 20, (x, heart) -> x.citizen(0, 0, 0, heart), -6);
            stands(x -> x.citizen(0, 9, 99, 20), 4);
        });
        Edge.of("9", ROOM, () -> {
            Run x = Edge.after(Scenes::full);
            x.due(x.citizen(0, 0, 0, 0), 4);
            x.due(x.citizen(0, 0, 0, 0), 5);
            x.due(x.citizen(0, 0, 0, 0), -7);
            Edge.refused(Scenes::crowded, y -> y.citizen(0, 0, 0, 0), -7);
            Edge.refused(Scenes::crowded, y -> y.citizen(6, 9, 99, 20), -7);
        });
        Edge.of("9", "A CITIZEN: the number. -1 KIND; -6; -7.", () -> {
            stands(x -> x.citizen(0, 0, 0, 0), 4);
            refused(x -> x.citizen(-1, 0, 0, 0), -1);
            refused(x -> x.citizen(7, 0, 0, 0), -1);
            refused(x -> x.citizen(0, -1, 0, 0), -6);
            Edge.refused(Scenes::crowded, x -> x.citizen(0, 0, 0, 0), -7);
        });
        Edge.of("9", ORDER, () -> {
            refused(x -> x.citizen(7, 10, 100, 21), -1);
            refused(x -> x.citizen(-1, 0, 0, -1), -1);
            Edge.refused(Scenes::crowded, x -> x.citizen(7, 0, 0, 0), -1);
            Edge.refused(Scenes::crowded, x -> x.citizen(0, 10, 0, 0), -6);
            Edge.refused(Scenes::crowded, x -> x.citizen(0, 0, -1, 0), -6);
            Edge.refused(Scenes::crowded, x -> x.citizen(0, 0, 0, 21), -6);
        });
    }

    private static void beggar() {
        Edge.of("10", WRONG, () -> {
            outside(1, 9, (x, need) -> x.beggar(need, 0), -6);
            outside(0, 4, (x, rule) -> x.beggar(1, rule), -6);
            stands(x -> x.beggar(1, 0), 4);
            stands(x -> x.beggar(9, 4), 4);
        });
        Edge.of("10", ROOM, () -> {
            Run x = Edge.after(Scenes::full);
            x.due(x.beggar(1, 0), 4);
            x.due(x.beggar(1, 0), 5);
            x.due(x.beggar(1, 0), -7);
            Edge.refused(Scenes::crowded, y -> y.beggar(1, 0), -7);
            Edge.refused(Scenes::crowded, y -> y.beggar(9, 4), -7);
        });
        Edge.of("10", "A BEGGAR: the number. -6; -7.", () -> {
            stands(x -> x.beggar(1, 0), 4);
            refused(x -> x.beggar(0, 0), -6);
            Edge.refused(Scenes::crowded, x -> x.beggar(1, 0), -7);
        });
        Edge.of("10", ORDER, () -> {
            Edge.refused(Scenes::crowded, x -> x.beggar(0, 0), -6);
            Edge.refused(Scenes::crowded, x -> x.beggar(10, 0), -6);
            Edge.refused(Scenes::crowded, x -> x.beggar(1, 5), -6);
        });
    }

    private static void tell() {
        Edge.of("11", NO_SUCH, () -> {
            outside(0, 3, (x, c) -> x.tell(c, 0, 1), -1);
            stands(x -> x.tell(0, 0, 1), 0);
            stands(x -> x.tell(3, 0, 1), 0);
            Edge.refused(Scenes::empty, x -> x.tell(0, 0, 1), -1);
        });
        Edge.of("11", WRONG, () -> {
            int[] most = {1, 99, 20, 99};
            for (int what = 0; what < most.length; what++) {
                int some = what;
                outside(0, most[what], (x, v) -> x.tell(1, some, v), -6);
            }
            outside(0, 3, (x, what) -> x.tell(1, what, 0), -6);
            outside(0, 3, (x, what) -> x.tell(1, what, 1), -6);
        });
        Edge.of("11", "HIDES (what 0; v 1, 0), WEAR (1), HEART (2), MEANS (3) of a CITIZEN becomes v: what it was. "
                + "-1; -6.", () -> {
            // citizen 2's FACE is of no account here: 2 is hidden, and ANXIOUS with MEANS
            Edge.changes(Scenes::full, x -> x.tell(2, 3, 99), 9, "citizenOf(2, 2)", 99);
            Edge.changes(Scenes::full, x -> x.tell(2, 3, 0), 9, "citizenOf(2, 2)", 0);
            refused(x -> x.tell(2, 3, 100), -6);
            refused(x -> x.tell(2, 3, -1), -6);
            refused(x -> x.tell(4, 3, 0), -1);
        });
        Edge.of("11", ORDER, () -> {
            refused(x -> x.tell(4, 0, 2), -1);
            refused(x -> x.tell(-1, 4, 0), -1);
        });
    }

    private static void post() {
        Edge.of("12", NO_SUCH, () -> {
            outside(0, 3, (x, b) -> x.post(b, true), -1);
            outside(0, 3, (x, b) -> x.post(b, false), -1);
            stands(x -> x.post(0, true), 0);
            stands(x -> x.post(3, true), 0);
            stands(x -> x.post(2, true), 1);
            Edge.refused(Scenes::empty, x -> x.post(0, true), -1);
        });
    }

    private static void ofPeople() {
        Edge.of("13", "Of a CITIZEN: 0 KIND, 1 a, 2 MEANS, 3 HEART, 4 WEAR, 5 PASSED, 6 whether he HIDES (1, 0), 7 FACE.", () -> {
            int[] due = {-5, 4, 7, 8, 16, 38, 1, 1, 14, -5};
            Edge.Calls one = x -> {
                x.citizen(4, 7, 8, 16);
                x.tell(0, 1, 40);
                x.mornings(1);
                x.tell(0, 0, 1);
            };
            for (int what = -1; what <= 8; what++) {
                Run x = Edge.after(one);
                x.due(x.citizenOf(0, what), due[what + 1]);
            }
        });
        Edge.of("14", "Of a BEGGAR: 0 NEED, 1 RULE, 2 LAST (NONE), 3 HUNGER, 4 whether he has a POST (1, 0).", () -> {
            int[] first = {-15, 9, 4, -1, 2, 1, -15};
            int[] then = {-15, 9, 4, 0, 3, 0, -15};
            Edge.Calls one = x -> {
                x.beggar(9, 4);
                x.mornings(2);
                x.post(0, true);
                x.mornings(2);
            };
            for (int what = -1; what <= 5; what++) {
                Run x = Edge.after(one);
                x.due(x.beggarOf(0, what), first[what + 1]);
                x.citizen(0, 0, 0, 0);
                x.post(0, false);
                x.mornings(1);
                x.due(x.beggarOf(0, what), then[what + 1]);
            }
        });
        Edge.of("13", "-5: no such one, another what.", () -> {
            outside(0, 3, (x, c) -> x.citizenOf(c, 0), -5);
            outside(0, 7, (x, what) -> x.citizenOf(0, what), -5);
            refused(x -> x.citizenOf(4, 8), -5);
            stands(x -> x.citizenOf(0, 0), 5);
            stands(x -> x.citizenOf(3, 3), 20);
            stands(x -> x.citizenOf(3, 7), 20);
            Edge.refused(Scenes::empty, x -> x.citizenOf(0, 0), -5);
        });
        Edge.of("14", "-15: no such one, another what (counted as -5).", () -> {
            outside(0, 3, (x, b) -> x.beggarOf(b, 0), -15);
            outside(0, 4, (x, what) -> x.beggarOf(0, what), -15);
            refused(x -> x.beggarOf(4, 5), -15);
            stands(x -> x.beggarOf(0, 0), 4);
            stands(x -> x.beggarOf(3, 0), 1);
            stands(x -> x.beggarOf(2, 4), 1);
            Edge.refused(Scenes::empty, x -> x.beggarOf(0, 0), -15);
        });
    }

    private static void city() {
        Edge.of("15", NO_SUCH, () -> {
            outside(0, 7, (x, s) -> x.city(s), -1);
            stands(x -> x.city(7), 2);
            Run x = new Run();
            x.citizen(0, 0, 0, 0);
            Due.write(x, 0, "hides 0");
            x.due(x.city(0), 1);
        });
        Edge.of("15", OTHER, () -> refused(x -> x.city(2), -2));
        Edge.of("15", NOTHING, () -> refused(x -> x.city(3), -3));
        Edge.of("15 16", "A CITY by the ROW in SHELF s: how many ITEMS. -1; -2; -3; -6 a FAULT.", () -> {
            Edge.faulty(Scenes::full, x -> x.city(0), 0);
            Edge.faulty(Scenes::full, x -> x.city(4), 6);
            Edge.faulty(x -> {
                Scenes.full(x);
                Due.write(x, 3, "hides 0;wear 1 50;post 0;beggar 1 1;citizen 0 0 0 0;hides 5");
            }, x -> x.city(3), 58);
        });
        Edge.of("16", "The FAULT of the latest city() that came to a ROW; NONE: there was none, or none yet.", () -> {
            Run x = new Run();
            x.due(x.fault(), -1);
            x.due(x.city(0), -3);
            x.due(x.fault(), -1);
            x.row(0, 0, 0);
            x.due(x.city(0), -6);
            x.due(x.fault(), 0);
            Run y = Edge.after(Scenes::full);
            y.due(y.fault(), 6);
            y.due(y.city(8), -1);
            y.due(y.city(2), -2);
            y.due(y.city(3), -3);
            y.due(y.fault(), 6);
            y.due(y.city(7), 2);
            y.due(y.fault(), -1);
            y.due(y.city(2), -2);
            y.due(y.fault(), -1);
        });
    }

    private static void picks() {
        Edge.of("17", "PICKS; NONE. -11 (counted as -1).", () -> {
            outside(0, 3, (x, b) -> x.picks(b), -11);
            stands(x -> x.picks(0), 0);
            stands(x -> x.picks(3), 3);
            stands(x -> x.picks(2), -1);
            Edge.refused(Scenes::empty, x -> x.picks(0), -11);
            Edge.refused(Scenes::crowded, x -> x.picks(6), -11);
        });
    }

    private static void picked() {
        Edge.of("19", NO_SUCH, () -> {
            outside(0, 3, (x, c) -> x.picked(c, 0), -1);
            outside(0, 3, (x, c) -> x.picked(c, 1), -1);
            Edge.refused(Scenes::empty, x -> x.picked(0, 0), -1);
        });
        Edge.of("19", "PICKED (what 0), BURDEN (1) of a CITIZEN. -1; -5 another what.", () -> {
            outside(0, 1, (x, what) -> x.picked(3, what), -5);
            outside(0, 1, (x, what) -> x.picked(0, what), -5);
        });
        Edge.of("19", ORDER, () -> {
            refused(x -> x.picked(4, 2), -1);
            refused(x -> x.picked(-1, -1), -1);
        });
    }

    private static void wear() {
        Edge.of("20", NO_SUCH, () -> {
            outside(0, 3, (x, c) -> x.wear(c, 0), -1);
            Edge.refused(Scenes::empty, x -> x.wear(0, 0), -1);
        });
        Edge.of("20", WRONG, () -> outside(0, 40, (x, n) -> x.wear(0, n), -6));
        Edge.of("20", "In n MORNINGS: WEAR of a CITIZEN. -1; -6.", () -> {
            stands(x -> x.wear(3, 0), 1);
            refused(x -> x.wear(4, 0), -1);
            refused(x -> x.wear(3, 41), -6);
        });
        Edge.of("20", ORDER, () -> {
            refused(x -> x.wear(4, 41), -1);
            refused(x -> x.wear(-1, -1), -1);
        });
    }

    private static void unkept() {
        Edge.of("21", "-15 another what; -16 (counted as -5, -6).", () -> {
            outside(0, 1, (x, what) -> x.unkept(1, what), -15);
            outside(0, 40, (x, n) -> x.unkept(n, 0), -16);
            outside(0, 40, (x, n) -> x.unkept(n, 1), -16);
        });
        Edge.of("21", "In n MORNINGS: how many were unkept (what 0), the first on which somebody is (1; NONE).", () -> {
            refused(x -> x.unkept(1, -1), -15);
            stands(x -> x.unkept(0, 0), 0);
            stands(x -> x.unkept(0, 1), -1);
            stands(x -> x.unkept(1, 0), 1);
            stands(x -> x.unkept(1, 1), 1);
            refused(x -> x.unkept(1, 2), -15);
        });
        Edge.of("21", ORDER, () -> {
            refused(x -> x.unkept(41, 2), -15);
            refused(x -> x.unkept(-1, -1), -15);
        });
    }

    private static void parting() {
        Edge.of("22", "PARTING: how much (i NONE), whom the i-th gets; NONE: it can't be.", () -> {
            refused(x -> x.parting(-2), -15);
            stands(x -> x.parting(-1), 4);
            stands(x -> x.parting(0), 1);
            stands(x -> x.parting(1), 3);
            stands(x -> x.parting(2), 3);
            refused(x -> x.parting(3), -15);
        });
        Edge.of("22", "-15 no such i (counted as -5; also where it can't be).", () -> {
            outside(-1, 2, (x, i) -> x.parting(i), -15);
            stands(x -> x.parting(0), 1);
            stands(x -> x.parting(2), 3);
            Edge.Calls tooPoor = x -> {
                Scenes.full(x);
                x.tell(1, 3, 3);
                x.tell(3, 3, 3);
            };
            Edge.unchanged(tooPoor, x -> x.parting(-1), -1);
            Edge.unchanged(tooPoor, x -> x.parting(0), -1);
            Edge.unchanged(tooPoor, x -> x.parting(2), -1);
            outside(tooPoor, -1, 2, (x, i) -> x.parting(i), -15);
            Edge.refused(Scenes::empty, x -> x.parting(0), -15);
        });
    }

    private static void rests() {
        Edge.of("23", "EACH FOR HIMSELF: ROUNDS (beggar NONE), at whom one is; NONE. -11 also one with a POST "
                + "(counted as -1).", () -> {
            outside(-1, 3, (x, b) -> x.rests(b), -11);
            refused(x -> x.rests(2), -11);
            Edge.refused(Scenes::empty, x -> x.rests(0), -11);
            Edge.refused(x -> {
                Scenes.full(x);
                x.post(3, true);
            }, x -> x.rests(3), -11);
        });
    }

    private static void shun() {
        Edge.of("24", "SHUN (what 0), DRAW (1); NONE. -11 also one who hides; -15 another what (counted as -1, -5).", () -> {
            outside(0, 3, (x, c) -> x.shun(c, 0), -11);
            outside(0, 3, (x, c) -> x.shun(c, 1), -11);
            refused(x -> x.shun(2, 0), -11);
            refused(x -> x.shun(2, 1), -11);
            outside(0, 1, (x, what) -> x.shun(3, what), -15);
            Edge.refused(Scenes::empty, x -> x.shun(0, 0), -11);
        });
        Edge.of("24", ORDER, () -> {
            refused(x -> x.shun(4, 2), -11);
            refused(x -> x.shun(2, 2), -11);
            refused(x -> x.shun(2, -1), -11);
        });
    }

    private static void rules() {
        Edge.of("25", NO_SUCH, () -> {
            outside(0, 3, (x, b) -> x.rules(b, 0), -1);
            outside(0, 3, (x, c) -> x.rules(0, c), -1);
            Edge.refused(Scenes::empty, x -> x.rules(0, 0), -1);
        });
        Edge.of("25", "RULES. -1 BEGGAR, CITIZEN; -6 he has a POST.", () -> {
            refused(x -> x.rules(2, 0), -6);
            refused(x -> x.rules(2, 3), -6);
        });
        Edge.of("25", ORDER, () -> {
            refused(x -> x.rules(2, 4), -1);
            refused(x -> x.rules(2, -1), -1);
            refused(x -> x.rules(4, 4), -1);
        });
    }

    private static void lose() {
        Edge.of("27", "LOSE. -101; -106 he hides already (counted as -1, -6).", () -> {
            outside(0, 3, (x, c) -> x.lose(c), -101);
            refused(x -> x.lose(2), -106);
            Edge.refused(Scenes::empty, x -> x.lose(0), -101);
            Edge.refused(Scenes::crowded, x -> x.lose(6), -101);
        });
    }

    private static void judge() {
        Edge.of("29", NO_SUCH, () -> outside(0, 7, (x, s) -> x.judge(s, 1), -11));
        Edge.of("29", OTHER, () -> refused(x -> x.judge(2, 1), -12));
        Edge.of("29", NOTHING, () -> refused(x -> x.judge(3, 1), -13));
        Edge.of("29", "-11; -12; -13; -14 n; -15 fewer elements; -16 n above 40 (counted as -1 to -6).", () -> {
            refused(x -> x.judge(0, -1), -14);
            refused(x -> x.judge(0, MIN), -14);
            stands(x -> x.judge(0, 0), 0);
            stands(x -> x.judge(0, 4), 0);
            stands(x -> x.judge(0, 5), 0);
            refused(x -> x.judge(0, 6), -15);
            refused(x -> x.judge(5, 161), -15);
            refused(x -> x.judge(5, MAX), -15);
            stands(x -> x.judge(5, 39), 1);
            stands(x -> x.judge(5, 40), 1);
            refused(x -> x.judge(5, 41), -16);
            refused(x -> x.judge(5, 160), -16);
        });
    }

    private static void judgeOrder() {
        Edge.of("29", ORDER, () -> {
            refused(x -> x.judge(8, -1), -11);
            refused(x -> x.judge(-1, 41), -11);
            refused(x -> x.judge(8, 161), -11);
            refused(x -> x.judge(2, -1), -12);
            refused(x -> x.judge(2, 41), -12);
            refused(x -> x.judge(3, -1), -13);
            refused(x -> x.judge(3, 41), -13);
            refused(x -> x.judge(0, 41), -15);
            refused(x -> x.judge(1, 41), -15);
            refused(x -> x.judge(5, 200), -15);
        });
    }

    private static void inTruth() {
        Edge.of("30", "MORNINGS in truth, n of them (1 to 60), all by their RULES: how many went unkept together. -6.", () -> {
            outside(1, 60, (x, n) -> x.mornings(n), -6);
            refused(x -> x.mornings(-1), -6);
            Run x = Edge.after(Scenes::full);
            x.due(x.status(2), 5);
            x.mornings(1);
            x.due(x.status(2), 6);
            x.mornings(60);
            x.due(x.status(2), 66);
        });
        Edge.of("31", "WINTERS, n times (1 to 60): how many went unkept together. -6.", () -> {
            outside(1, 60, (x, n) -> x.winters(n), -6);
            refused(x -> x.winters(-1), -6);
            Run x = Edge.after(Scenes::full);
            x.winters(1);
            x.due(x.status(2), 6);
            x.winters(60);
            x.due(x.status(2), 66);
        });
    }

    private static void restore() {
        Edge.of("36", "how many CITIZENS. -6 there is none.", () -> {
            Edge.refused(Scenes::empty, x -> x.restore(), -6);
            Edge.refused(x -> {
                x.citizen(0, 0, 0, 0);
                x.show(0, 0);
                x.mornings(1);
            }, x -> x.restore(), -6);
            stands(x -> x.restore(), 3);
            Run x = new Run();
            x.due(x.image(), 0);
            x.due(x.restore(), 0);
            x.due(x.status(16), 0);
        });
    }

    /** Calls whose wrong numbers are no refusals. */
    private static void notRefused() {
        Edge.of("5", "Element i of the ROW; 0 if there is none (nothing is refused).", () -> {
            stands(x -> x.element(0, 0), -9);
            stands(x -> x.element(0, 4), 19);
            stands(x -> x.element(5, 159), 300);
            for (int i : new int[] {MIN, -1, 5, 160, MAX}) {
                Edge.unchanged(Scenes::full, x -> x.element(0, i), 0);
            }
            for (int s : new int[] {MIN, -1, 8, MAX, 2, 3}) {
                Edge.unchanged(Scenes::full, x -> x.element(s, 0), 0);
            }
            Edge.unchanged(Scenes::full, x -> x.element(5, 160), 0);
        });
        Edge.of("7", "NONE NOTHING, or no such SHELF; a CITIZEN's number; 100 and the SORT of a ROW.", () -> {
            int[] due = {102, 100, 1, -1, 103, 101, 3, 100};
            for (int s = 0; s < 8; s++) {
                int some = s;
                Edge.unchanged(Scenes::full, x -> x.holds(some), due[s]);
            }
            for (int s : new int[] {MIN, -1, 8, MAX}) {
                Edge.unchanged(Scenes::full, x -> x.holds(s), -1);
            }
        });
        Edge.of("32", "SEED becomes v: what it was (nothing is refused).", () -> {
            Run full = Edge.after(Scenes::full);
            int was = full.status(7);
            for (int v : new int[] {MIN, -1, 0, 1, MAX}) {
                Edge.changes(Scenes::full, x -> x.seed(v), was, "status(7)", v);
            }
            Run x = new Run();
            x.due(x.seed(MIN), 1);
            x.due(x.seed(-1), MIN);
            x.due(x.seed(0), -1);
            x.due(x.seed(MAX), 0);
            x.due(x.status(7), MAX);
            for (int what = 11; what <= 17; what++) {
                x.due(x.status(what), 0);
            }
        });
        Edge.of("33", "A MOVE of a CITIZEN with x. 0, and no TRACE then: no such CITIZEN, move.", () -> {
            for (int[] wrong : new int[][] {{-1, 0}, {4, 0}, {MIN, 2}, {MAX, 1}, {0, -1}, {0, 3}, {3, MIN}, {3, MAX}, {4, 3}}) {
                Edge.untraced(Scenes::full, x -> x.act(wrong[0], wrong[1], 5));
            }
            stands(x -> x.act(0, 0, 5), 5);
            stands(x -> x.act(3, 0, 5), 8);
            stands(x -> x.act(3, 2, 5), 16 ^ 7);
        });
    }

    private static void together() {
        Edge.of("37", "REFUSALS (the call answers the number; nothing changes but how many there were", () -> {
            Run x = new Run();
            for (int i = 1; i <= 400; i++) {
                x.due(x.row(8, 0, 0), -1);
            }
            x.due(x.status(11), 400);
            x.due(x.picks(0), -11);
            x.due(x.lose(0), -101);
            x.due(x.judge(8, 0), -11);
            x.due(x.status(11), 403);
            for (int what = 12; what <= 17; what++) {
                x.due(x.status(what), 0);
            }
        });
        Edge.of("37", "11 to 17: REFUSALS -1 to -7. NONE for another what.", () -> {
            Run x = Edge.after(Scenes::full);
            for (int what = 11; what <= 17; what++) {
                x.due(x.status(what), 1);
            }
            for (int what : new int[] {MIN, -1, 9, 10, 18, 19, MAX}) {
                Edge.unchanged(Scenes::full, y -> y.status(what), -1);
            }
            x.due(x.status(8), 8);
        });
    }
}
