/** The edges in THE CITY: how many there may be, what each number may be, and what stands at first; the FACES. */
final class EdgesOfCity {
    private EdgesOfCity() {
    }

    static void all() {
        life();
        citizens();
        told();
        beggars();
        plainFaces();
        sourFaces();
        anxiousFaces();
        limitedFaces();
    }

    private static void life() {
        Edge.of("1", "An object is used for at most 512 calls after it has been made", () -> {
            Run x = new Run();
            x.citizen(0, 0, 9, 9);
            x.beggar(9, 0);
            x.beggar(9, 3);
            for (int i = 0; i < 508; i++) {
                x.due(x.mornings(60), 60);
            }
            x.due(x.status(2), 508 * 60);
            Run last = new Run();
            for (int i = 0; i < 511; i++) {
                last.due(last.set(8, 0, 0L), -1);
            }
            last.due(last.status(11), 511);
        });
        Edge.of("1", "`BeggarsChoose()`: No CITIZENS, no BEGGARS.", () -> {
            Run x = new Run();
            x.due(x.status(0), 0);
            x.due(x.status(1), 0);
            x.due(x.citizenOf(0, 0), -5);
            x.due(x.beggarOf(0, 0), -15);
            x.due(x.kept(), 0);
            x.due(x.hide(), -1);
            x.due(x.best(), -1);
            x.due(x.rests(-1), -1);
            x.due(x.parting(-1), 0);
            x.due(x.mornings(60), 0);
            x.due(x.winters(60), 0);
            x.due(x.status(7), 1);
        });
    }

    private static void citizens() {
        Edge.of("9 37", "CITIZENS have numbers, from 0 on, 6 at most", () -> {
            Run x = new Run();
            for (int i = 0; i < 6; i++) {
                x.due(x.status(0), i);
                x.due(x.citizenOf(i, 0), -5);
                x.due(x.citizen(i, 0, 0, 0), i);
                x.due(x.citizenOf(i, 0), i);
            }
            x.due(x.status(0), 6);
            x.due(x.citizen(0, 0, 0, 0), -7);
            x.due(x.status(0), 6);
            x.due(x.citizenOf(6, 0), -5);
            x.due(x.citizenOf(5, 0), 5);
        });
        Edge.of("9 8", "each of a KIND: 0 CITIZEN; 1 WORN, 2 SOUR, 4 ANXIOUS, each under CITIZEN; 3 HIRED, under SOUR; "
                + "5 EMPTY, under ANXIOUS; 6 MEAN, under HIRED", () -> {
            // by KIND the bits of the KINDS that it is or is under
            int[] isUnder = {1, 1 | 2, 1 | 4, 1 | 4 | 8, 1 | 16, 1 | 16 | 32, 1 | 4 | 8 | 64};
            for (int kind = 0; kind < 7; kind++) {
                Run x = new Run();
                x.citizen(kind, 7, 1, 15);
                x.tell(0, 1, 20);
                x.mornings(1);
                x.show(0, 0);
                int[] says = {x.citizenOf(0, 7), 18, 7, 7, 1, 1, 7};
                for (int asked = 0; asked < 7; asked++) {
                    x.due(x.says(0, asked), (isUnder[kind] >> asked & 1) == 1 ? says[asked] : -2);
                }
            }
        });
    }

    private static void told() {
        Edge.of("9", "a (0 to 9), MEANS (0 to 99), HEART (0 to 20)", () -> {
            int[] most = {9, 99, 20};
            for (int what = 0; what < 3; what++) {
                for (int v : new int[] {-1, 0, 1, most[what] - 1, most[what], most[what] + 1}) {
                    Run x = new Run();
                    boolean isIn = v >= 0 && v <= most[what];
                    x.due(x.citizen(0, what == 0 ? v : 5, what == 1 ? v : 5, what == 2 ? v : 5), isIn ? 0 : -6);
                    x.due(x.status(0), isIn ? 1 : 0);
                    x.due(x.citizenOf(0, 1 + what), isIn ? v : -5);
                }
            }
        });
        Edge.of("11 13", "HIDES (what 0; v 1, 0), WEAR (1), HEART (2), MEANS (3) of a CITIZEN becomes v: what it was.", () -> {
            int[] asked = {6, 4, 3, 2};
            int[] first = {0, 0, 7, 8};
            int[] most = {1, 99, 20, 99};
            for (int what = 0; what < 4; what++) {
                for (int v : new int[] {0, 1, most[what] - 1, most[what]}) {
                    Run x = new Run();
                    x.citizen(0, 6, 8, 7);
                    x.due(x.tell(0, what, v), first[what]);
                    for (int of = 0; of < 4; of++) {
                        x.due(x.citizenOf(0, asked[of]), of == what ? v : first[of]);
                    }
                    x.due(x.tell(0, what, 0), v);
                    x.due(x.tell(0, what, -1), -6);
                    x.due(x.tell(0, what, most[what] + 1), -6);
                    x.due(x.citizenOf(0, asked[what]), 0);
                }
            }
        });
        Edge.of("13", "WEAR (0 to 99; 0 at first), PASSED (mornings one after the other on which nobody picked him, 0 "
                + "to 9; 0 at first), "
                + "HIDES or not (not at first).", () -> {
            Run x = new Run();
            x.citizen(0, 0, 0, 0);
            x.due(x.citizenOf(0, 4), 0);
            x.due(x.citizenOf(0, 5), 0);
            x.due(x.citizenOf(0, 6), 0);
            x.due(x.status(3), 0);
            x.due(x.status(5), 0);
            for (int morning = 1; morning <= 11; morning++) {
                x.mornings(1);
                x.due(x.citizenOf(0, 5), Math.min(9, morning));
            }
            x.beggar(1, 0);
            x.mornings(1);
            x.due(x.citizenOf(0, 5), 0);
            x.post(0, true);
            x.mornings(1);
            x.due(x.citizenOf(0, 5), 1);
            // who comes late begins as they all did
            x.due(x.citizen(4, 0, 0, 9), 1);
            x.due(x.citizenOf(1, 4), 0);
            x.due(x.citizenOf(1, 5), 0);
            x.due(x.citizenOf(1, 6), 0);
            x.due(x.citizenOf(1, 7), 9);
        });
    }

    private static void beggars() {
        Edge.of("10 37", "BEGGARS have numbers, from 0 on, 6 at most", () -> {
            Run x = new Run();
            for (int i = 0; i < 6; i++) {
                x.due(x.status(1), i);
                x.due(x.beggarOf(i, 0), -15);
                x.due(x.beggar(9 - i, 0), i);
                x.due(x.beggarOf(i, 0), 9 - i);
            }
            x.due(x.status(1), 6);
            x.due(x.beggar(1, 0), -7);
            x.due(x.status(1), 6);
            x.due(x.beggarOf(6, 0), -15);
            x.due(x.beggarOf(5, 0), 4);
        });
        Edge.of("10 14", "NEED (1 to 9), a RULE (0 FACES, 1 ANGRY, 2 FEWEST, 3 BLIND, 4 FAITHFUL)", () -> {
            int[] least = {1, 0};
            int[] most = {9, 4};
            for (int what = 0; what < 2; what++) {
                for (int v = least[what] - 1; v <= most[what] + 1; v++) {
                    Run x = new Run();
                    boolean isIn = v >= least[what] && v <= most[what];
                    x.due(x.beggar(what == 0 ? v : 3, what == 1 ? v : 2), isIn ? 0 : -6);
                    x.due(x.status(1), isIn ? 1 : 0);
                    x.due(x.beggarOf(0, what), isIn ? v : -15);
                }
            }
        });
        Edge.of("14", "LAST (whom he picked last; none at first), HUNGER (mornings unkept, 0 to 99; 0 at first), a "
                + "POST or not (not at first)", () -> {
            Run x = new Run();
            x.beggar(1, 0);
            x.due(x.beggarOf(0, 2), -1);
            x.due(x.beggarOf(0, 3), 0);
            x.due(x.beggarOf(0, 4), 0);
            x.mornings(1);
            x.due(x.beggarOf(0, 2), -1);
            x.due(x.beggarOf(0, 3), 1);
            x.citizen(0, 0, 0, 0);
            x.mornings(1);
            x.due(x.beggarOf(0, 2), 0);
            x.due(x.beggarOf(0, 3), 2);
            // who comes late begins as they all did
            x.due(x.beggar(1, 4), 1);
            x.due(x.beggarOf(1, 2), -1);
            x.due(x.beggarOf(1, 3), 0);
            x.due(x.beggarOf(1, 4), 0);
        });
        Edge.of("12 37", "A BEGGAR has a POST, or not: whether he had (1, 0).", () -> {
            Run x = new Run();
            x.beggar(1, 0);
            x.beggar(1, 0);
            x.due(x.post(1, false), 0);
            x.due(x.post(1, true), 0);
            x.due(x.post(1, true), 1);
            x.due(x.beggarOf(0, 4), 0);
            x.due(x.beggarOf(1, 4), 1);
            x.due(x.status(6), 1);
            x.due(x.post(1, false), 1);
            x.due(x.post(1, false), 0);
            x.due(x.status(6), 0);
        });
        Edge.of("12 30", "who has one doesn't come. MORNINGS gone by (0 at first).", () -> {
            Run x = Due.city("citizen 0 0 0 5;beggar 1 0;beggar 1 0;post 1");
            x.due(x.status(2), 0);
            x.due(x.mornings(1), 1);
            x.due(x.beggarOf(0, 3), 1);
            x.due(x.beggarOf(1, 3), 0);
            x.due(x.beggarOf(1, 2), -1);
            x.due(x.status(2), 1);
            x.post(0, true);
            x.due(x.mornings(1), 0);
            x.due(x.beggarOf(0, 3), 1);
            x.due(x.status(2), 2);
        });
    }

    private static void face(int kind, int a, int means, int heart, int wear, int due) {
        Run x = new Run();
        x.citizen(kind, a, means, heart);
        x.tell(0, 1, wear);
        x.due(x.citizenOf(0, 7), due);
    }

    private static void plainFaces() {
        Edge.of("13", "FACE of a CITIZEN: CITIZEN HEART less a tenth of WEAR (cut)", () -> {
            face(0, 9, 0, 20, 0, 20);
            face(0, 9, 0, 20, 9, 20);
            face(0, 9, 0, 20, 10, 19);
            face(0, 9, 0, 20, 11, 19);
            face(0, 9, 0, 20, 19, 19);
            face(0, 9, 0, 20, 20, 18);
            face(0, 9, 0, 20, 89, 12);
            face(0, 9, 0, 20, 90, 11);
            face(0, 9, 0, 20, 99, 11);
        });
        Edge.of("13", "WORN HEART less a fifth (cut)", () -> {
            face(1, 9, 0, 20, 4, 20);
            face(1, 9, 0, 20, 5, 19);
            face(1, 9, 0, 20, 6, 19);
            face(1, 9, 0, 20, 9, 19);
            face(1, 9, 0, 20, 10, 18);
            face(1, 9, 0, 20, 94, 2);
            face(1, 9, 0, 20, 95, 1);
            face(1, 9, 0, 20, 99, 1);
        });
    }

    private static void sourFaces() {
        Edge.of("13", "SOUR half of what a CITIZEN would show (cut)", () -> {
            face(2, 9, 0, 0, 0, 0);
            face(2, 9, 0, 1, 0, 0);
            face(2, 9, 0, 2, 0, 1);
            face(2, 9, 0, 3, 0, 1);
            face(2, 9, 0, 20, 0, 10);
            face(2, 9, 0, 20, 9, 10);
            face(2, 9, 0, 20, 10, 9);
            face(2, 9, 0, 20, 20, 9);
        });
        Edge.of("13", "HIRED that of SOUR, and a more", () -> {
            face(3, 0, 0, 15, 0, 7);
            face(3, 1, 0, 15, 0, 8);
            face(3, 9, 0, 15, 0, 16);
            face(3, 9, 0, 20, 0, 19);
            face(3, 0, 0, 0, 0, 0);
        });
        Edge.of("13", "MEAN that of HIRED, less 3", () -> {
            face(6, 2, 0, 1, 0, 0);
            face(6, 3, 0, 1, 0, 0);
            face(6, 4, 0, 1, 0, 1);
            face(6, 9, 0, 20, 0, 16);
            face(6, 0, 0, 5, 0, 0);
            face(6, 0, 0, 6, 0, 0);
            face(6, 0, 0, 8, 0, 1);
        });
        Edge.of("13", "Faces are limited last; half of a face below 0 is cut toward 0.", () -> {
            // 1, 2 and 3 below 0: none, one and one below, then a more
            face(3, 5, 0, 1, 10, 5);
            face(3, 5, 0, 0, 10, 5);
            face(3, 5, 0, 0, 20, 4);
            face(3, 5, 0, 0, 30, 4);
            face(3, 5, 0, 0, 40, 3);
            face(3, 9, 0, 0, 99, 5);
            face(6, 9, 0, 0, 30, 5);
            face(6, 9, 0, 0, 99, 2);
            face(6, 7, 0, 0, 99, 0);
            face(6, 8, 0, 0, 99, 1);
        });
    }

    /** The face of one who was passed over on so many mornings. */
    private static void passedFace(int kind, int means, int heart, int wear, int mornings, int due) {
        Run x = new Run();
        x.citizen(kind, 0, means, heart);
        if (mornings > 0) {
            x.mornings(mornings);
        }
        x.tell(0, 1, wear);
        x.due(x.citizenOf(0, 7), due);
    }

    private static void anxiousFaces() {
        Edge.of("13", "ANXIOUS that of CITIZEN, and PASSED", () -> {
            passedFace(4, 0, 20, 0, 0, 20);
            passedFace(4, 0, 20, 0, 1, 21);
            passedFace(4, 0, 20, 0, 8, 28);
            passedFace(4, 0, 20, 0, 9, 29);
            passedFace(4, 0, 20, 0, 10, 29);
            passedFace(4, 0, 20, 19, 9, 28);
            passedFace(0, 0, 20, 0, 9, 20);
        });
        Edge.of("13", "EMPTY that of ANXIOUS, and 1 if MEANS are 0.", () -> {
            passedFace(5, 0, 10, 0, 0, 11);
            passedFace(5, 1, 10, 0, 0, 10);
            passedFace(5, 99, 10, 0, 0, 10);
            passedFace(5, 0, 10, 0, 3, 14);
            passedFace(5, 1, 10, 0, 3, 13);
            Run x = new Run();
            x.citizen(5, 0, 0, 10);
            x.tell(0, 3, 1);
            x.due(x.citizenOf(0, 7), 10);
            x.tell(0, 3, 0);
            x.due(x.citizenOf(0, 7), 11);
        });
    }

    private static void limitedFaces() {
        Edge.of("13 8", "At last 0 at least, 30 at most.", () -> {
            face(0, 0, 0, 2, 19, 1);
            face(0, 0, 0, 2, 20, 0);
            face(0, 0, 0, 2, 30, 0);
            face(0, 0, 0, 0, 99, 0);
            face(1, 0, 0, 18, 89, 1);
            face(1, 0, 0, 18, 90, 0);
            face(1, 0, 0, 18, 95, 0);
            face(1, 0, 0, 0, 99, 0);
            // 20, and 9, and 1 is the most that there can be
            passedFace(5, 1, 20, 0, 9, 29);
            passedFace(5, 0, 20, 0, 9, 30);
            passedFace(5, 0, 20, 0, 10, 30);
            passedFace(5, 0, 20, 10, 10, 29);
            // limited after all that is added
            passedFace(4, 0, 0, 99, 8, 0);
            passedFace(4, 0, 0, 99, 9, 0);
            passedFace(4, 0, 1, 99, 9, 1);
            passedFace(5, 0, 0, 99, 9, 1);
            passedFace(5, 0, 0, 99, 8, 0);
            Run x = new Run();
            x.citizen(0, 0, 0, 0);
            x.tell(0, 1, 99);
            x.show(0, 0);
            x.due(x.says(0, 0), 0);
        });
    }
}
