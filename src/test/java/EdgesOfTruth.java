/** The edges IN TRUTH: WINTERS and DRAWS, SHELVES and ROWS, MOVES and THE TRACE, THE IMAGE, what is counted. */
final class EdgesOfTruth {
    private static final int MIN = Integer.MIN_VALUE;
    private static final int MAX = Integer.MAX_VALUE;

    private EdgesOfTruth() {
    }

    static void all() {
        hiding();
        draws();
        winters();
        shelves();
        newRows();
        said();
        rows();
        lowestBits();
        copies();
        wrappingSums();
        wrappingProducts();
        bodies();
        trace();
        image();
        restore();
        restoredShelves();
        counts();
    }

    private static int nextSeed(int seed) {
        return (int) (seed * 1103515245L + 12345L);
    }

    /** A draw below 10: what it divides by, before the sign is put away. */
    private static int drawn(int seed) {
        return (int) ((nextSeed(seed) & 0xFFFFFFFFL) / 65536 % 10);
    }

    private static int seedFor(int draw, boolean isBelow0) {
        int seed = 0;
        while (drawn(seed) != draw || nextSeed(seed) < 0 != isBelow0) {
            seed++;
        }
        return seed;
    }

    private static void hiding() {
        Edge.of("31", "each CITIZEN by numbers hides if a DRAW below 10 is below a tenth of his WEAR, else he doesn't", () -> {
            for (int draw = 0; draw < 10; draw++) {
                for (int sign = 0; sign < 2; sign++) {
                    int seed = seedFor(draw, sign == 1);
                    for (int wear : new int[] {0, 10 * draw - 1, 10 * draw, 10 * draw + 9, 10 * draw + 10, 99}) {
                        if (wear < 0 || wear > 99) {
                            continue;
                        }
                        for (int before = 0; before < 2; before++) {
                            Run x = new Run();
                            x.citizen(0, 0, 9, 9);
                            x.tell(0, 1, wear);
                            x.tell(0, 0, before);
                            x.seed(seed);
                            x.due(x.winters(1), 0);
                            x.due(x.citizenOf(0, 6), wear > 10 * draw + 9 ? 1 : 0);
                        }
                    }
                }
            }
        });
    }

    private static void draws() {
        Edge.of("31 32", "A DRAW below n: SEED (1 at first) becomes SEED times 1103515245, and 12345 (an int, wrapping); "
                + "its upper 16 bits, no sign, modulo n.", () -> {
            Run x = new Run();
            x.due(x.status(7), 1);
            x.winters(60);
            x.due(x.status(7), 1);
            x.citizen(0, 0, 0, 0);
            x.winters(1);
            x.due(x.status(7), 1103527590);
            x.winters(1);
            // 1103527590 times 1103515245, and 12345, less 283531733 times 4294967296
            x.due(x.status(7), -1770082073);
            for (int seed : new int[] {0, 1, -1, MAX, MIN, 1 << 16, 65535}) {
                x.seed(seed);
                x.winters(1);
                x.due(x.status(7), nextSeed(seed));
            }
            x.seed(0);
            x.winters(1);
            x.due(x.status(7), 12345);
            x.seed(MIN);
            x.winters(1);
            x.due(x.status(7), MIN + 12345);
            x.citizen(0, 0, 0, 0);
            x.tell(0, 0, 1);
            x.seed(5);
            x.winters(2);
            x.due(x.status(7), nextSeed(nextSeed(nextSeed(nextSeed(5)))));
        });
    }

    private static void winters() {
        Edge.of("31", "WINTERS by draws, n times: each CITIZEN by numbers hides if a DRAW below 10 is below a tenth of his WEAR, "
                + "else he doesn't; then a MORNING; how many went unkept together.", () -> {
            // the first draws 9 and the second 0: who is worn hides, and who comes is a MORNING's only one
            int seed = 0;
            while (drawn(seed) != 9 || drawn(nextSeed(seed)) != 0) {
                seed++;
            }
            Run x = Due.city("citizen 0 0 9 5;citizen 0 0 9 6;wear 0 95;wear 1 95;beggar 9 0;beggar 9 0");
            x.seed(seed);
            x.due(x.winters(1), 1);
            x.due(x.citizenOf(0, 6), 0);
            x.due(x.citizenOf(1, 6), 1);
            x.due(x.citizenOf(0, 4), 99);
            x.due(x.citizenOf(1, 4), 93);
            x.due(x.status(2), 1);
            Run poor = Due.city("citizen 0 0 0 5;beggar 1 0;beggar 1 1;post 1");
            poor.due(poor.winters(1), 1);
            poor.due(poor.winters(60), 60);
            poor.post(1, false);
            poor.due(poor.winters(60), 120);
            poor.due(poor.winters(0), -6);
            poor.due(poor.winters(61), -6);
            poor.due(poor.status(2), 121);
            Run none = new Run();
            none.beggar(1, 0);
            none.due(none.winters(60), 60);
        });
    }

    private static void shelves() {
        Edge.of("2 6 7", "SHELVES 0 to 7 hold NOTHING (at first), a ROW, or a CITIZEN.", () -> {
            Run x = new Run();
            x.citizen(0, 0, 0, 0);
            for (int s = -1; s <= 8; s++) {
                boolean isThere = s >= 0 && s <= 7;
                x.due(x.holds(s), -1);
                x.due(x.row(s, 3, 2), isThere ? 1 : -1);
                x.due(x.holds(s), isThere ? 103 : -1);
                x.due(x.set(s, 1, 5L), isThere ? 1 : -1);
                x.due(x.element(s, 1), isThere ? 5 : 0);
                x.due(x.show(s, 0), isThere ? 1 : -1);
                x.due(x.holds(s), isThere ? 0 : -1);
                x.due(x.element(s, 1), 0);
                x.due(x.set(s, 1, 5L), isThere ? -2 : -1);
                x.due(x.show(s, -1), isThere ? 0 : -1);
                x.due(x.holds(s), -1);
                x.due(x.set(s, 1, 5L), isThere ? -3 : -1);
                x.due(x.row(s, 0, 2), isThere ? 1 : -1);
                x.due(x.holds(s), isThere ? 100 : -1);
                x.due(x.element(s, 1), 0);
                x.due(x.show(s, 0), isThere ? 1 : -1);
                x.due(x.row(s, 1, 2), isThere ? 1 : -1);
                x.due(x.holds(s), isThere ? 101 : -1);
                x.due(x.set(s, 1, 6L), isThere ? 1 : -1);
                x.due(x.element(s, 1), isThere ? 6 : 0);
                x.due(x.row(s, 2, 1), isThere ? 1 : -1);
                x.due(x.holds(s), isThere ? 102 : -1);
            }
        });
    }

    private static void newRows() {
        Edge.of("2", "SHELF s holds a new ROW: 1.", () -> {
            Run x = new Run();
            for (int s = 0; s < 8; s++) {
                x.due(x.row(s, 2, 3), 1);
                x.set(s, 1, 10L + s);
            }
            // the same once more is a new one, and the others stay
            x.due(x.row(4, 2, 3), 1);
            for (int s = 0; s < 8; s++) {
                x.due(x.element(s, 1), s == 4 ? 0 : 10 + s);
            }
            // so is one of another SORT, which doesn't bring back what an older one held
            x.set(4, 2, 9L);
            x.due(x.row(4, 3, 1), 1);
            x.due(x.row(4, 2, 3), 1);
            x.due(x.element(4, 2), 0);
        });
    }

    private static void said() {
        Edge.of("8", "What the CITIZEN in SHELF s, taken for one of a KIND, says: CITIZEN his FACE; WORN his WEAR; "
                + "SOUR, HIRED, MEAN his a; ANXIOUS, EMPTY PASSED.", () -> {
            // 15 less 3 or 7; the half of 12; 7 more; 12 and 2; less 3
            int[] faces = {12, 8, 6, 13, 14, 14, 10};
            // picked, he has WEAR 37 and isn't passed over
            int[] facesThen = {12, 8, 6, 13, 12, 12, 10};
            int[][] asked = {{0}, {0, 1}, {0, 2}, {0, 2, 3}, {0, 4}, {0, 4, 5}, {0, 2, 3, 6}};
            for (int kind = 0; kind < 7; kind++) {
                Run x = new Run();
                x.citizen(kind, 7, 5, 15);
                x.tell(0, 1, 40);
                x.mornings(2);
                x.show(4, 0);
                int[] says = {faces[kind], 36, 7, 7, 2, 2, 7};
                int[] then = {facesThen[kind], 37, 7, 7, 0, 0, 7};
                for (int as : asked[kind]) {
                    x.due(x.says(4, as), says[as]);
                }
                x.beggar(1, 0);
                x.mornings(1);
                for (int as : asked[kind]) {
                    x.due(x.says(4, as), then[as]);
                }
            }
        });
    }

    private static void rows() {
        Edge.of("2 3 5", "A ROW has a SORT (0 bytes, 1 shorts, 2 ints, 3 longs) and 0 to 160 elements, 0 at first", () -> {
            for (int sort = 0; sort < 4; sort++) {
                Run x = new Run();
                for (int n : new int[] {0, 1, 159, 160}) {
                    x.due(x.row(1, sort, n), 1);
                    x.due(x.holds(1), 100 + sort);
                    x.due(x.element(1, n - 1), 0);
                    x.due(x.set(1, n - 1, 7L), n > 0 ? 1 : -5);
                    x.due(x.set(1, n, 7L), -5);
                    x.due(x.set(1, -1, 7L), -5);
                    x.due(x.element(1, n - 1), n > 0 ? 7 : 0);
                    x.due(x.element(1, n), 0);
                }
                x.due(x.row(1, sort, 161), -7);
                x.due(x.element(1, 159), 7);
                // a new one is 0 where an older one wasn't
                x.set(1, 0, 9L);
                x.row(1, sort, 1);
                x.due(x.element(1, 0), 0);
                x.due(x.element(1, 159), 0);
                x.row(1, sort, 160);
                x.due(x.element(1, 0), 0);
                x.due(x.element(1, 159), 0);
            }
        });
    }

    private static void lowestBits() {
        Edge.of("3 5", "what is put in keeps its lowest bits.", () -> {
            int[] bits = {8, 16, 32, 64};
            for (int sort = 0; sort < 4; sort++) {
                Run x = new Run();
                x.row(0, sort, 3);
                long most = -1L >>> 65 - bits[sort];
                long least = -most - 1;
                long[] kept = {0, 1, -1, most - 1, most, least, least + 1};
                for (long v : kept) {
                    x.due(x.set(0, 1, v), 1);
                    x.due(x.element(0, 1), v);
                }
                x.set(0, 1, most + 1);
                x.due(x.element(0, 1), least);
                x.set(0, 1, least - 1);
                x.due(x.element(0, 1), most);
                x.set(0, 1, 2 * most + 1);
                x.due(x.element(0, 1), -1);
                x.set(0, 1, 2 * most + 2);
                x.due(x.element(0, 1), 0);
                x.set(0, 1, Long.MAX_VALUE);
                x.due(x.element(0, 1), sort == 3 ? Long.MAX_VALUE : -1);
                x.set(0, 1, Long.MIN_VALUE);
                x.due(x.element(0, 1), sort == 3 ? Long.MIN_VALUE : 0);
                x.due(x.element(0, 0), 0);
                x.due(x.element(0, 2), 0);
            }
        });
    }

    private static Run counted(int n) {
        Run x = new Run();
        x.row(0, 3, n);
        x.row(1, 3, n);
        for (int i = 0; i < n; i++) {
            x.set(0, i, i + 1L);
        }
        return x;
    }

    private static void elements(Run x, int s, long... due) {
        for (int i = 0; i < due.length; i++) {
            x.due(x.element(s, i), due[i]);
        }
    }

    private static void copies() {
        Edge.of("4", "Elements i, i + 1, .. of the ROW in SHELF p, n of them, come to elements j, j + 1, .. of that "
                + "in q (as they were ahead): 1.", () -> {
            Run x = counted(6);
            x.due(x.copy(0, 1, 0, 0, 0), 1);
            elements(x, 1, 0, 0, 0, 0, 0, 0);
            x.due(x.copy(0, 1, 5, 0, 1), 1);
            x.due(x.copy(0, 1, 0, 5, 1), 1);
            x.due(x.copy(0, 1, 6, 6, 0), 1);
            elements(x, 1, 6, 0, 0, 0, 0, 1);
            x.due(x.copy(0, 1, 1, 2, 3), 1);
            elements(x, 1, 6, 0, 2, 3, 4, 1);
            elements(x, 0, 1, 2, 3, 4, 5, 6);
            x.due(x.copy(0, 1, 0, 0, 6), 1);
            elements(x, 1, 1, 2, 3, 4, 5, 6);
            // onto itself, up, down, and where it is
            x.due(x.copy(0, 0, 0, 1, 5), 1);
            elements(x, 0, 1, 1, 2, 3, 4, 5);
            x.due(x.copy(1, 1, 1, 0, 5), 1);
            elements(x, 1, 2, 3, 4, 5, 6, 6);
            x.due(x.copy(1, 1, 0, 0, 6), 1);
            elements(x, 1, 2, 3, 4, 5, 6, 6);
            Run whole = counted(160);
            whole.due(whole.copy(0, 1, 0, 0, 160), 1);
            whole.due(whole.element(1, 0), 1);
            whole.due(whole.element(1, 159), 160);
            whole.due(whole.copy(0, 1, 0, 1, 160), -5);
            whole.due(whole.copy(1, 1, 0, 1, 159), 1);
            whole.due(whole.element(1, 159), 159);
            whole.due(whole.element(1, 0), 1);
        });
    }

    /** A citizen of the number 5, with five ahead of him. */
    private static Run fifth(int kind, int a) {
        Run x = new Run();
        for (int i = 0; i < 5; i++) {
            x.citizen(0, 0, 0, 0);
        }
        x.citizen(kind, a, 0, 0);
        return x;
    }

    private static void act(int kind, int a, int move, int x, long due) {
        Run run = fifth(kind, a);
        run.due(run.act(5, move, x), (int) due);
    }

    private static void wrappingSums() {
        Edge.of("33", "CITIZEN: 10 looks: x + m.", () -> {
            act(0, 9, 0, MAX - 6, MAX - 1);
            act(0, 9, 0, MAX - 5, MAX);
            act(0, 9, 0, MAX - 4, MIN);
            act(0, 9, 0, MAX, MIN + 4);
            act(0, 9, 0, MIN, MIN + 5);
            act(0, 9, 0, 0, 5);
        });
        Edge.of("33", "12 shuts: gives(x) ^ looks(x - k).", () -> {
            act(0, 9, 2, MIN, (MIN + 5) * 2 ^ MAX - 8 + 5);
            act(0, 9, 2, MIN + 8, (MIN + 13) * 2 ^ MIN + 4);
            act(0, 9, 2, MIN + 9, (MIN + 14) * 2 ^ MIN + 5);
            act(0, 0, 2, MIN, (MIN + 5) * 2 ^ MIN + 5);
        });
        Edge.of("33", "WORN: 20 gives: super.gives(x) + k.", () -> {
            act(1, 0, 1, (1 << 30) - 6, MAX - 1);
            act(1, 1, 1, (1 << 30) - 6, MAX);
            act(1, 2, 1, (1 << 30) - 6, MIN);
            act(1, 9, 1, (1 << 30) - 6, MIN + 7);
        });
        Edge.of("33", "HIRED: 40 looks: super.looks(x + 1).", () -> {
            act(3, 0, 0, MAX - 1, (MAX + 5L) * 3);
            act(3, 0, 0, MAX, (MIN + 5L) * 3);
            act(3, 0, 0, MIN, (MIN + 6L) * 3);
        });
        Edge.of("33", "51 looks: super.looks(x) - m.", () -> {
            act(4, 0, 0, MAX - 5, MAX - 5);
            act(4, 0, 0, MAX - 4, MAX - 4);
            act(4, 0, 0, MAX, MAX);
            act(4, 0, 0, MIN, MIN);
        });
        Edge.of("33", "71 gives: super.gives(x - k).", () -> {
            // then 11 of 70 of 40 of 30 of 10
            act(6, 9, 1, MIN, (MAX - 8L + 1 + 5) * 3 * 2 * 2);
            act(6, 9, 1, MIN + 8, (MAX + 1L + 5) * 3 * 2 * 2);
            act(6, 9, 1, MIN + 9, (MIN + 1L + 5) * 3 * 2 * 2);
            act(6, 0, 1, MIN, (MIN + 1L + 5) * 3 * 2 * 2);
        });
        Edge.of("33", "MOVES of CITIZENS, with x (wrapping): 0 looks, 1 gives, 2 shuts; m the number, k its a.", () -> {
            act(0, 3, 0, 10, 15);
            act(0, 3, 1, 10, 30);
            act(0, 3, 2, 10, 30 ^ 12);
            act(0, 3, -1, 10, 0);
            act(0, 3, 3, 10, 0);
        });
    }

    private static void wrappingProducts() {
        Edge.of("33", "11 gives: looks(x) * 2.", () -> {
            act(0, 0, 1, (1 << 30) - 6, MAX - 1);
            act(0, 0, 1, (1 << 30) - 5, MIN);
            act(0, 0, 1, MAX, 8);
            act(0, 0, 1, -(1 << 30) - 5, MIN);
            act(0, 0, 1, -(1 << 30) - 6, MAX - 1);
        });
        Edge.of("33", "SOUR: 30 looks: super.looks(x) * 3.", () -> {
            // 715827882 times 3 is 2147483646
            act(2, 0, 0, 715827882 - 5, MAX - 1);
            act(2, 0, 0, 715827883 - 5, MIN + 1);
            act(2, 0, 0, -715827882 - 5, MIN + 2);
            act(2, 0, 0, -715827883 - 5, MAX);
            act(2, 0, 0, MAX, (MAX + 5L) * 3);
        });
        Edge.of("33", "ANXIOUS: 50 shuts: -super.shuts(x).", () -> {
            // with k 0 it is the opposite of 2x ^ x, which is the least of all for the least x
            act(4, 0, 2, MIN, MIN);
            act(4, 0, 2, 0, 0);
            act(4, 0, 2, 1, -3);
            act(4, 0, 2, -1, -1);
            act(4, 0, 2, MAX, -(-2 ^ MAX));
        });
        Edge.of("33", "EMPTY: 60 shuts: super.shuts(x) ^ 5.", () -> {
            act(5, 0, 2, MIN, MIN ^ 5);
            act(5, 0, 2, 0, 5);
            act(5, 0, 2, 1, -3 ^ 5);
        });
        Edge.of("33", "MEAN: 70 looks: super.looks(x) * 2.", () -> {
            act(6, 0, 0, 0, 36);
            act(6, 0, 0, 357913941 - 6, MAX - 1);
            act(6, 0, 0, 357913942 - 6, MIN + 4);
            act(6, 0, 0, MAX, (MIN + 5L) * 6);
        });
    }

    private static void bodies() {
        Edge.of("33 34", "the body of the CITIZEN's KIND, or of the next KIND above that has one; super: from the "
                + "KIND above the body's on.", () -> {
            ran(0, 0, 10);
            ran(0, 1, 11, 10);
            ran(0, 2, 12, 11, 10, 10);
            ran(1, 0, 10);
            ran(1, 1, 20, 11, 10);
            ran(1, 2, 12, 20, 11, 10, 10);
            ran(2, 0, 30, 10);
            ran(2, 1, 11, 30, 10);
            ran(2, 2, 12, 11, 30, 10, 30, 10);
            ran(3, 0, 40, 30, 10);
            ran(3, 1, 11, 40, 30, 10);
            ran(3, 2, 12, 11, 40, 30, 10, 40, 30, 10);
            ran(4, 0, 51, 10);
            ran(4, 1, 11, 51, 10);
            ran(4, 2, 50, 12, 11, 51, 10, 51, 10);
            ran(5, 0, 51, 10);
            ran(5, 1, 11, 51, 10);
            ran(5, 2, 60, 50, 12, 11, 51, 10, 51, 10);
            ran(6, 0, 70, 40, 30, 10);
            ran(6, 1, 71, 11, 70, 40, 30, 10);
            ran(6, 2, 12, 71, 11, 70, 40, 30, 10, 70, 40, 30, 10);
        });
    }

    private static void ran(int kind, int move, int... due) {
        Run x = fifth(kind, 3);
        x.act(5, move, 7);
        x.due(x.status(8), due.length);
        for (int i = 0; i < due.length; i++) {
            x.due(x.trace(i), due[i]);
        }
        for (int i : new int[] {MIN, -1, due.length, 19, 20, 21, MAX}) {
            x.due(x.trace(i), -1);
        }
    }

    private static void trace() {
        // no act comes to more than 11 bodies, so that the 20 are never full
        Edge.of("34 37", "THE TRACE: the numbers of the bodies that ran in the latest act(), in the order in which "
                + "they began; the first 20 are kept.", () -> {
            Run x = fifth(6, 3);
            x.due(x.trace(0), -1);
            x.due(x.status(8), 0);
            x.act(5, 2, 7);
            x.due(x.status(8), 11);
            x.due(x.trace(10), 10);
            x.due(x.trace(11), -1);
            x.act(0, 0, 7);
            x.due(x.status(8), 1);
            x.due(x.trace(0), 10);
            x.due(x.trace(1), -1);
            x.due(x.trace(10), -1);
            x.due(x.act(6, 0, 7), 0);
            x.due(x.status(8), 0);
            x.due(x.trace(0), -1);
            x.act(0, 1, 7);
            x.due(x.act(0, 3, 7), 0);
            x.due(x.trace(0), -1);
        });
        Edge.of("34", "THE TRACE's i-th body. NONE: none such.", () -> {
            Run x = Edge.after(Scenes::full);
            int[] due = {12, 11, 40, 30, 10, 40, 30, 10};
            for (int i = 0; i < due.length; i++) {
                int at = i;
                x.due(x.trace(i), due[i]);
                Edge.unchanged(Scenes::full, y -> y.trace(at), due[i]);
            }
            for (int i : new int[] {MIN, -1, 8, 19, 20, MAX}) {
                Edge.unchanged(Scenes::full, y -> y.trace(i), -1);
            }
        });
    }

    private static void image() {
        Edge.of("35", "THE IMAGE of all but SHELVES (and THE IMAGE, REFUSALS, the FAULT, THE TRACE) is taken: how "
                + "many CITIZENS.", () -> {
            Run x = new Run();
            x.due(x.image(), 0);
            for (int i = 1; i <= 6; i++) {
                x.citizen(0, 0, 0, 0);
                x.due(x.image(), i);
            }
            x.due(x.citizen(0, 0, 0, 0), -7);
            x.due(x.image(), 6);
            // the latest is the one that counts
            x.beggar(1, 0);
            x.image();
            x.beggar(1, 0);
            x.due(x.restore(), 6);
            x.due(x.status(1), 1);
            Edge.unchanged(y -> {
                Scenes.full(y);
                y.image();
            }, y -> y.image(), 4);
        });
    }

    private static void restore() {
        Edge.of("36", "All is as THE IMAGE has it", () -> {
            Run x = new Run();
            x.due(x.restore(), -6);
            x.image();
            x.citizen(1, 2, 3, 4);
            x.beggar(5, 4);
            x.seed(6);
            x.mornings(7);
            x.due(x.restore(), 0);
            for (int what = 0; what <= 6; what++) {
                x.due(x.status(what), 0);
            }
            x.due(x.status(7), 1);
            x.due(x.status(16), 1);
            // whoever comes now is new
            x.due(x.citizen(0, 0, 9, 0), 0);
            x.due(x.beggar(5, 4), 0);
            x.due(x.citizenOf(0, 4), 0);
            x.due(x.citizenOf(0, 5), 0);
            x.due(x.beggarOf(0, 2), -1);
            x.due(x.beggarOf(0, 3), 0);
            x.due(x.restore(), 0);
            x.due(x.restore(), 0);
            x.due(x.status(0), 0);
        });
        Edge.of("36 35", "THE IMAGE of all but SHELVES (and THE IMAGE, REFUSALS, the FAULT, THE TRACE)", () -> {
            Run x = new Run();
            x.citizen(1, 2, 9, 4);
            x.citizen(4, 0, 0, 3);
            x.beggar(5, 4);
            x.beggar(1, 0);
            x.tell(0, 1, 40);
            x.tell(1, 0, 1);
            x.post(1, true);
            x.mornings(1);
            x.seed(-5);
            x.image();
            x.tell(0, 0, 1);
            x.tell(0, 1, 3);
            x.tell(0, 2, 20);
            x.tell(0, 3, 0);
            x.post(1, false);
            x.mornings(60);
            x.winters(60);
            x.row(0, 0, 1);
            x.city(0);
            x.act(0, 1, 0);
            x.picks(2);
            x.due(x.restore(), 2);
            int[][] citizens = {{1, 2, 9, 4, 45, 0, 0, 0}, {4, 0, 0, 3, 0, 1, 1, 4}};
            for (int c = 0; c < 2; c++) {
                for (int what = 0; what < 8; what++) {
                    x.due(x.citizenOf(c, what), citizens[c][what]);
                }
            }
            int[][] beggars = {{5, 4, 0, 0, 0}, {1, 0, -1, 0, 1}};
            for (int b = 0; b < 2; b++) {
                for (int what = 0; what < 5; what++) {
                    x.due(x.beggarOf(b, what), beggars[b][what]);
                }
            }
            x.due(x.status(2), 1);
            x.due(x.status(7), -5);
            x.due(x.fault(), 0);
            x.due(x.trace(0), 20);
            x.due(x.status(8), 3);
            x.due(x.holds(0), 100);
            x.due(x.status(11), 1);
            x.due(x.status(16), 1);
        });
    }

    private static void restoredShelves() {
        Edge.of("36", "SHELVES with CITIZENS hold those of these numbers, or NOTHING: how many CITIZENS.", () -> {
            for (int before = 0; before <= 6; before++) {
                Run x = new Run();
                for (int c = 0; c < before; c++) {
                    x.citizen(0, c, 0, 0);
                }
                x.due(x.image(), before);
                for (int c = before; c < 6; c++) {
                    x.citizen(0, c, 0, 0);
                }
                for (int c = 0; c < 6; c++) {
                    x.show(c, c);
                }
                x.row(6, 2, 3);
                x.set(6, 2, 4L);
                x.due(x.restore(), before);
                for (int c = 0; c < 6; c++) {
                    x.due(x.holds(c), c < before ? c : -1);
                    x.due(x.says(c, 0), c < before ? 0 : -3);
                }
                x.due(x.holds(6), 102);
                x.due(x.element(6, 2), 4);
                x.due(x.holds(7), -1);
                if (before < 6) {
                    // he who gets the number anew isn't shown
                    x.due(x.citizen(0, 9, 0, 5), before);
                    x.due(x.holds(before), -1);
                }
            }
        });
    }

    private static void counts() {
        Edge.of("37", "How many: 0 CITIZENS, 1 BEGGARS, 2 MORNINGS, 3 WEAR together, 4 HUNGER together, 5 who hide, 6 "
                + "POSTS, 7 SEED", () -> {
            Run x = new Run();
            for (int what = 0; what <= 6; what++) {
                x.due(x.status(what), 0);
            }
            for (int i = 0; i < 6; i++) {
                x.citizen(0, 0, 0, 0);
                x.beggar(9, i % 5);
                x.due(x.status(0), i + 1);
                x.due(x.status(1), i + 1);
            }
            x.mornings(60);
            x.due(x.status(4), 360);
            x.mornings(39);
            x.due(x.status(4), 594);
            x.mornings(1);
            x.due(x.status(4), 594);
            for (int i = 0; i < 6; i++) {
                x.tell(i, 1, 99);
                x.due(x.status(3), 99 * (i + 1));
                x.tell(i, 0, 1);
                x.due(x.status(5), i + 1);
                x.post(i, true);
                x.due(x.status(6), i + 1);
            }
            x.tell(5, 0, 0);
            x.due(x.status(5), 5);
            x.post(0, false);
            x.due(x.status(6), 5);
            x.due(x.status(2), 100);
            x.seed(MIN);
            x.due(x.status(7), MIN);
        });
        Edge.of("37", "8 bodies that ran in the latest act() (all, kept or not)", () -> {
            Run x = fifth(6, 3);
            x.due(x.status(8), 0);
            x.act(0, 0, 1);
            x.due(x.status(8), 1);
            x.act(5, 2, 1);
            x.due(x.status(8), 11);
            x.act(9, 0, 1);
            x.due(x.status(8), 0);
        });
    }
}
