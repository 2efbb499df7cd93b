/** The edges of A MORNING: THE FILE, KEEPING, and what is BEHIND it. */
final class EdgesOfMorning {
    private EdgesOfMorning() {
    }

    static void all() {
        file();
        faces();
        fewest();
        blind();
        faithful();
        keeping();
        empty();
        wear();
        passed();
        beggars();
        mornings();
    }

    private static void picks(Run x, long... due) {
        for (int b = 0; b < due.length; b++) {
            x.due(x.picks(b), due[b]);
        }
    }

    private static void file() {
        Edge.of("17 18 19", "BEGGARS without POST by numbers; each picks one of those who don't hide (NOBODY, if all do), "
                + "by FACES as they are in the morning", () -> {
            for (int rule = 0; rule < 5; rule++) {
                Run x = Due.city("citizen 0 0 99 5;citizen 0 0 99 5;beggar 1 " + rule);
                x.tell(0, 0, 1);
                picks(x, 1);
                x.due(x.kept(), 1);
                x.due(x.picked(0, 0), 0);
                x.due(x.picked(1, 0), 1);
                x.tell(1, 0, 1);
                picks(x, -1);
                x.due(x.kept(), 0);
                x.due(x.picked(1, 0), 0);
                x.due(x.mornings(1), 1);
                x.tell(0, 0, 0);
                picks(x, 0);
                Run none = new Run();
                none.beggar(1, rule);
                picks(none, -1);
                none.due(none.kept(), 0);
                none.due(none.mornings(1), 1);
            }
        });
        Edge.of("17", "by FACES as they are in the morning", () -> {
            // the first burdens 0 by 30, whose FACE then would be under that of 1
            Run x = Due.city("citizen 0 0 99 6;citizen 0 0 99 5;wear 0 5;beggar 9 0;beggar 9 0;beggar 9 1");
            picks(x, 0, 0, 1);
            x.mornings(1);
            x.due(x.citizenOf(0, 4), 23);
            x.due(x.citizenOf(0, 7), 4);
            picks(x, 1, 1, 0);
        });
        Edge.of("17", "PICKS: whom a BEGGAR picks; NONE: nobody, he has a POST.", () -> {
            Run x = Due.city("citizen 0 0 9 5;beggar 1 0;beggar 1 0");
            picks(x, 0, 0);
            x.post(0, true);
            picks(x, -1, 0);
            x.due(x.picked(0, 0), 2);
            x.post(1, true);
            picks(x, -1, -1);
            x.due(x.picked(0, 0), 0);
            x.due(x.status(11), 0);
            x.post(0, false);
            picks(x, 0, -1);
        });
    }

    private static void faces() {
        Edge.of("17", "FACES: the greatest FACE, of several the first.", () -> {
            Run x = Due.city("citizen 0 0 9 5;citizen 0 0 9 6;citizen 0 0 9 6;beggar 1 0");
            picks(x, 1);
            x.tell(2, 2, 7);
            picks(x, 2);
            x.tell(0, 2, 7);
            picks(x, 0);
            x.tell(0, 0, 1);
            picks(x, 2);
            x.tell(2, 2, 6);
            picks(x, 1);
            x.tell(1, 2, 0);
            x.tell(2, 2, 0);
            picks(x, 1);
        });
        Edge.of("17", "ANGRY: the least, of several the first.", () -> {
            Run x = Due.city("citizen 0 0 9 6;citizen 0 0 9 5;citizen 0 0 9 5;beggar 1 1");
            picks(x, 1);
            x.tell(2, 2, 4);
            picks(x, 2);
            x.tell(0, 2, 4);
            picks(x, 0);
            x.tell(0, 0, 1);
            picks(x, 2);
            x.tell(2, 2, 5);
            picks(x, 1);
            x.tell(1, 2, 0);
            x.tell(2, 2, 0);
            picks(x, 1);
        });
    }

    private static void fewest() {
        Edge.of("17", "FEWEST: whom fewest picked so far that morning, of these the greatest FACE, of several the first.", () -> {
            Run x = Due.city("citizen 0 0 9 5;citizen 0 0 9 6;citizen 0 0 9 6;beggar 1 2;beggar 1 2;beggar 1 2;"
                    + "beggar 1 2;beggar 1 2;beggar 1 2");
            picks(x, 1, 2, 0, 1, 2, 0);
            x.tell(0, 2, 6);
            picks(x, 0, 1, 2, 0, 1, 2);
            x.tell(0, 2, 7);
            picks(x, 0, 1, 2, 0, 1, 2);
            x.tell(2, 2, 9);
            picks(x, 2, 0, 1, 2, 0, 1);
            x.tell(2, 0, 1);
            picks(x, 0, 1, 0, 1, 0, 1);
            // by whichever RULE they were picked, and kept or not
            Run y = Due.city("citizen 0 0 0 9;citizen 0 0 9 5;beggar 9 0;beggar 9 0;beggar 1 2;beggar 1 2;beggar 1 2;beggar 1 2");
            picks(y, 0, 0, 1, 1, 0, 1);
            y.post(0, true);
            picks(y, -1, 0, 1, 0, 1, 0);
        });
    }

    private static void blind() {
        Edge.of("17", "BLIND: of those who don't hide, by numbers, the one whose place among them is his own number "
                + "and MORNINGS, "
                + "modulo how many they are.", () -> {
            Run x = Due.city("citizen 0 0 9 5;citizen 0 0 9 5;citizen 0 0 9 5;citizen 0 0 9 5;hides 1;"
                    + "beggar 1 3;beggar 1 3;beggar 1 3;beggar 1 3;beggar 1 3;beggar 1 3");
            picks(x, 0, 2, 3, 0, 2, 3);
            x.mornings(1);
            picks(x, 2, 3, 0, 2, 3, 0);
            x.mornings(1);
            picks(x, 3, 0, 2, 3, 0, 2);
            x.mornings(1);
            picks(x, 0, 2, 3, 0, 2, 3);
            x.post(0, true);
            picks(x, -1, 2, 3, 0, 2, 3);
            x.tell(1, 0, 0);
            picks(x, -1, 0, 1, 2, 3, 0);
            x.tell(0, 0, 1);
            x.tell(2, 0, 1);
            x.tell(3, 0, 1);
            picks(x, -1, 1, 1, 1, 1, 1);
            Run late = Due.city("citizen 0 0 0 5;citizen 0 0 0 5;citizen 0 0 0 5;citizen 0 0 0 5;citizen 0 0 0 5;"
                    + "beggar 1 3;beggar 1 3");
            for (int i = 0; i < 101; i++) {
                late.mornings(59);
            }
            // 5959 mornings are 4 beyond 1191 times 5
            late.due(late.picks(0), 4);
            late.due(late.picks(1), 0);
        });
    }

    private static void faithful() {
        Edge.of("17", "FAITHFUL: LAST, if he doesn't hide; else as FACES.", () -> {
            Run x = Due.city("citizen 0 0 9 5;citizen 0 0 9 6;citizen 0 0 9 6;beggar 1 4");
            picks(x, 1);
            x.mornings(1);
            x.due(x.beggarOf(0, 2), 1);
            x.tell(0, 2, 20);
            x.tell(1, 2, 0);
            picks(x, 1);
            x.tell(1, 0, 1);
            picks(x, 0);
            x.tell(0, 2, 6);
            picks(x, 0);
            x.tell(1, 0, 0);
            picks(x, 1);
            x.tell(1, 0, 1);
            x.mornings(1);
            x.due(x.beggarOf(0, 2), 0);
            x.tell(1, 0, 0);
            x.tell(1, 2, 20);
            picks(x, 0);
            // whom he picked last by whatever rule, the number 0 as well
            Run y = Due.city("citizen 0 0 9 9;citizen 0 0 9 5;beggar 1 4");
            y.mornings(1);
            y.tell(0, 2, 0);
            picks(y, 0);
        });
    }

    private static void keeping() {
        Edge.of("18 19", "a picked one keeps those who picked him as they come, if his MEANS are what he keeps "
                + "already and this one's "
                + "NEED together at least; else that one is TURNED away (those behind may be kept yet).", () -> {
            int[] means = {0, 3, 4, 5, 6, 7, 8, 9, 10, 11, 12, 99};
            // needs 4, 5, 1, 2: each is kept if there is as much left
            int[] kept = {0, 12, 1, 5, 5, 13, 13, 3, 7, 7, 15, 15};
            int[] burden = {0, 3, 4, 5, 5, 7, 7, 9, 10, 10, 12, 12};
            for (int i = 0; i < means.length; i++) {
                Run x = new Run();
                x.citizen(4, 9, means[i], 5);
                x.beggar(4, 0);
                x.beggar(5, 0);
                x.beggar(1, 0);
                x.beggar(2, 0);
                x.due(x.kept(), kept[i]);
                x.due(x.picked(0, 0), 15);
                x.due(x.picked(0, 1), burden[i]);
                x.due(x.mornings(1), 4 - Integer.bitCount(kept[i]));
            }
            Run one = Due.city("citizen 0 0 9 5;beggar 9 0");
            one.due(one.kept(), 1);
            one.tell(0, 3, 8);
            one.due(one.kept(), 0);
        });
        Edge.of("18", "KEPT: BEGGARS (bits).", () -> {
            Run x = Due.city("citizen 0 0 54 5;beggar 9 0;beggar 9 0;beggar 9 0;beggar 9 0;beggar 9 0;beggar 9 0");
            x.due(x.kept(), 63);
            x.due(x.picked(0, 1), 54);
            x.tell(0, 3, 53);
            x.due(x.kept(), 31);
            x.due(x.picked(0, 1), 45);
            x.tell(0, 3, 8);
            x.due(x.kept(), 0);
            x.tell(0, 3, 9);
            x.due(x.kept(), 1);
            for (int b = 0; b < 5; b++) {
                x.post(b, true);
            }
            x.due(x.kept(), 32);
            x.due(x.picked(0, 0), 32);
            x.post(5, true);
            x.due(x.kept(), 0);
        });
        Edge.of("19", "PICKED of a CITIZEN: BEGGARS (bits) who pick him. BURDEN: the NEEDS he keeps.", () -> {
            Run x = Due.city("citizen 0 0 9 5;citizen 0 0 9 4;beggar 9 0;beggar 9 1;beggar 1 0;beggar 9 0;beggar 9 0;beggar 9 0");
            x.due(x.picked(0, 0), 61);
            x.due(x.picked(0, 1), 9);
            x.due(x.picked(1, 0), 2);
            x.due(x.picked(1, 1), 9);
            x.tell(1, 0, 1);
            x.due(x.picked(0, 0), 63);
            x.due(x.picked(1, 0), 0);
            x.due(x.picked(1, 1), 0);
            x.tell(0, 3, 0);
            x.due(x.picked(0, 0), 63);
            x.due(x.picked(0, 1), 0);
        });
    }

    private static void empty() {
        Edge.of("18", "EMPTY keeps all whose NEED is a at most besides (they count nothing).", () -> {
            for (int a = 0; a <= 9; a++) {
                Run x = new Run();
                x.citizen(5, a, 0, 5);
                x.beggar(4, 0);
                x.beggar(5, 0);
                x.beggar(6, 0);
                x.due(x.kept(), a < 4 ? 0 : a == 4 ? 1 : a == 5 ? 3 : 7);
                x.due(x.picked(0, 1), a < 4 ? 0 : a == 4 ? 4 : a == 5 ? 9 : 15);
            }
            for (int kind = 0; kind < 7; kind++) {
                Run x = new Run();
                x.citizen(kind, 9, 0, 5);
                x.beggar(1, 0);
                x.due(x.kept(), kind == 5 ? 1 : 0);
            }
        });
        Edge.of("18 19 30", "EMPTY keeps all whose NEED is a at most whatever his MEANS are, and their NEEDS are no "
                + "part of what MEANS "
                + "are compared with; BURDEN and WEAR have their NEEDS, as of all that he keeps.", () -> {
            // 3 is besides, 4 counts, 3 is besides, 5 counts
            Run x = Due.city("citizen 5 3 9 5;beggar 3 0;beggar 4 0;beggar 3 0;beggar 5 0");
            x.due(x.kept(), 15);
            x.due(x.picked(0, 1), 15);
            x.tell(0, 3, 8);
            x.due(x.kept(), 7);
            x.due(x.picked(0, 1), 10);
            x.tell(0, 3, 4);
            x.due(x.kept(), 7);
            x.tell(0, 3, 3);
            x.due(x.kept(), 5);
            x.due(x.picked(0, 1), 6);
            x.tell(0, 3, 0);
            x.due(x.kept(), 5);
            x.due(x.wear(0, 1), 6);
            x.mornings(1);
            x.due(x.citizenOf(0, 4), 6);
            x.tell(0, 3, 9);
            x.mornings(1);
            x.due(x.citizenOf(0, 4), 21);
        });
    }

    private static void wear() {
        Edge.of("30 20", "of each CITIZEN WEAR is the NEEDS more that he keeps (all that he keeps; 99 at most)", () -> {
            int[] before = {0, 89, 90, 91, 98, 99};
            int[] behind = {9, 98, 99, 99, 99, 99};
            for (int i = 0; i < before.length; i++) {
                Run x = Due.city("citizen 0 0 9 20;beggar 9 0;beggar 9 0");
                x.tell(0, 1, before[i]);
                x.due(x.wear(0, 1), behind[i]);
                x.due(x.mornings(1), 1);
                x.due(x.citizenOf(0, 4), behind[i]);
            }
            Run all = Due.city("citizen 0 0 54 20;beggar 9 0;beggar 9 0;beggar 9 0;beggar 9 0;beggar 9 0;beggar 9 0");
            all.due(all.wear(0, 1), 54);
            all.tell(0, 1, 45);
            all.due(all.wear(0, 1), 99);
            all.tell(0, 1, 44);
            all.due(all.wear(0, 1), 98);
            // picked, but he keeps nobody: neither more nor less
            Run poor = Due.city("citizen 0 0 0 20;wear 0 50;beggar 9 0");
            poor.due(poor.mornings(1), 1);
            poor.due(poor.citizenOf(0, 4), 50);
        });
        Edge.of("30 20", "who wasn't picked 2 less (0 at least)", () -> {
            int[] before = {0, 1, 2, 3, 99};
            int[] behind = {0, 0, 0, 1, 97};
            for (int i = 0; i < before.length; i++) {
                Run x = new Run();
                x.citizen(0, 0, 9, 20);
                x.tell(0, 1, before[i]);
                x.due(x.wear(0, 1), behind[i]);
                x.mornings(1);
                x.due(x.citizenOf(0, 4), behind[i]);
                x.tell(0, 1, before[i]);
                x.tell(0, 0, 1);
                x.mornings(1);
                x.due(x.citizenOf(0, 4), behind[i]);
            }
        });
    }

    private static void passed() {
        Edge.of("30 13", "and PASSED 1 more (9 at most), else PASSED 0", () -> {
            Run x = Due.city("citizen 0 0 0 5;citizen 0 0 0 4;beggar 9 0");
            for (int morning = 1; morning <= 8; morning++) {
                x.mornings(1);
                x.due(x.citizenOf(0, 5), 0);
                x.due(x.citizenOf(1, 5), morning);
            }
            x.mornings(1);
            x.due(x.citizenOf(1, 5), 9);
            x.mornings(1);
            x.due(x.citizenOf(1, 5), 9);
            x.mornings(60);
            x.due(x.citizenOf(1, 5), 9);
            // picked, though he keeps nobody
            x.tell(1, 2, 6);
            x.mornings(1);
            x.due(x.citizenOf(1, 5), 0);
            x.due(x.citizenOf(0, 5), 1);
        });
        Edge.of("30 13", "PASSED is counted for those who hide, too.", () -> {
            Run x = Due.city("citizen 0 0 0 5;citizen 0 0 0 4;hides 0;beggar 9 0");
            x.mornings(1);
            x.due(x.citizenOf(0, 5), 1);
            x.due(x.citizenOf(1, 5), 0);
            x.mornings(8);
            x.due(x.citizenOf(0, 5), 9);
            x.mornings(1);
            x.due(x.citizenOf(0, 5), 9);
            x.tell(0, 0, 0);
            x.mornings(1);
            x.due(x.citizenOf(0, 5), 0);
            x.due(x.citizenOf(1, 5), 1);
        });
    }

    private static void beggars() {
        Edge.of("30 14", "each BEGGAR who came has LAST (if he picked one)", () -> {
            Run x = Due.city("citizen 0 0 0 5;citizen 0 0 0 6;beggar 9 0;beggar 9 1;post 1");
            x.mornings(1);
            x.due(x.beggarOf(0, 2), 1);
            x.due(x.beggarOf(1, 2), -1);
            x.tell(0, 0, 1);
            x.tell(1, 0, 1);
            x.mornings(1);
            x.due(x.beggarOf(0, 2), 1);
            x.tell(0, 0, 0);
            x.post(1, false);
            x.mornings(1);
            x.due(x.beggarOf(0, 2), 0);
            x.due(x.beggarOf(1, 2), 0);
            x.post(1, true);
            x.tell(1, 0, 0);
            x.mornings(1);
            x.due(x.beggarOf(0, 2), 1);
            x.due(x.beggarOf(1, 2), 0);
        });
        Edge.of("30 14", "and HUNGER 1 more if he wasn't kept (99 at most), else 0", () -> {
            Run x = Due.city("citizen 0 0 1 5;beggar 1 0;beggar 1 0;beggar 9 0;post 2");
            x.due(x.mornings(60), 60);
            x.due(x.beggarOf(0, 3), 0);
            x.due(x.beggarOf(1, 3), 60);
            x.due(x.beggarOf(2, 3), 0);
            x.mornings(38);
            x.due(x.beggarOf(1, 3), 98);
            x.mornings(1);
            x.due(x.beggarOf(1, 3), 99);
            x.due(x.mornings(1), 1);
            x.due(x.beggarOf(1, 3), 99);
            x.due(x.status(4), 99);
            x.post(1, true);
            x.mornings(1);
            x.due(x.beggarOf(1, 3), 99);
            x.post(1, false);
            x.tell(0, 3, 2);
            x.mornings(1);
            x.due(x.beggarOf(1, 3), 0);
            x.tell(0, 0, 1);
            x.due(x.mornings(1), 2);
            x.due(x.beggarOf(0, 3), 1);
            x.due(x.beggarOf(1, 3), 1);
            x.due(x.status(4), 2);
        });
    }

    private static void mornings() {
        Edge.of("30 37", "MORNINGS is 1 more.", () -> {
            Run x = new Run();
            x.due(x.status(2), 0);
            x.mornings(1);
            x.due(x.status(2), 1);
            x.mornings(59);
            x.due(x.status(2), 60);
            x.mornings(60);
            x.due(x.status(2), 120);
            x.winters(1);
            x.due(x.status(2), 121);
            x.winters(60);
            x.due(x.status(2), 181);
        });
        Edge.of("30", "MORNINGS in truth, n of them (1 to 60), all by their RULES: how many went unkept together.", () -> {
            Run x = Due.city("citizen 0 0 9 5;beggar 9 0;beggar 1 0;beggar 1 0");
            x.due(x.mornings(1), 2);
            x.due(x.mornings(60), 120);
            x.tell(0, 3, 11);
            x.due(x.mornings(60), 0);
            x.tell(0, 3, 0);
            x.due(x.mornings(60), 180);
        });
    }
}
