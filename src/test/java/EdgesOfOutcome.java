/** The edges in WHAT COMES OF IT: what a question answers at the ends, among several alike, and where there is nothing. */
final class EdgesOfOutcome {
    private EdgesOfOutcome() {
    }

    static void all() {
        nothingIsChanged();
        ahead();
        first();
        parting();
        partingAmongSeveral();
        has();
        rests();
        rounds();
        shun();
        draw();
        rules();
        hide();
        lose();
        post();
        judge();
        judgeCount();
    }

    private static void nothingIsChanged() {
        Edge.of("17 18 19 20 21 22 23 24 25 26 27 28 29", "WHAT COMES OF IT (nothing is changed)", () -> {
            // in this city: 0 picks 0 and is turned away, 1 picks the least face, 3 is blind
            Edge.unchanged(Scenes::full, x -> x.picks(0), 0);
            Edge.unchanged(Scenes::full, x -> x.picks(2), -1);
            Edge.unchanged(Scenes::full, x -> x.picks(3), 3);
            Edge.unchanged(Scenes::full, x -> x.kept(), 10);
            Edge.unchanged(Scenes::full, x -> x.picked(0, 0), 1);
            Edge.unchanged(Scenes::full, x -> x.picked(0, 1), 0);
            Edge.unchanged(Scenes::full, x -> x.wear(2, 40), 0);
            Edge.unchanged(Scenes::full, x -> x.wear(0, 0), 1);
            Edge.unchanged(Scenes::full, x -> x.unkept(1, 0), 1);
            Edge.unchanged(Scenes::full, x -> x.unkept(40, 1), 1);
            Edge.unchanged(Scenes::full, x -> x.parting(-1), 4);
            Edge.unchanged(Scenes::full, x -> x.parting(2), 3);
            Edge.unchanged(Scenes::full, x -> x.rests(-1), 1);
            Edge.unchanged(Scenes::full, x -> x.rests(0), 1);
            Edge.unchanged(Scenes::full, x -> x.shun(0, 0), -1);
            Edge.unchanged(Scenes::full, x -> x.shun(0, 1), 0);
            Edge.unchanged(Scenes::full, x -> x.rules(0, 0), 16);
            Edge.unchanged(Scenes::full, x -> x.rules(0, 3), 13);
            Edge.unchanged(Scenes::full, x -> x.hide(), 1);
            Edge.unchanged(Scenes::full, x -> x.lose(0), -1);
            Edge.unchanged(Scenes::full, x -> x.best(), 0);
            Edge.unchanged(Scenes::full, x -> x.judge(0, 3), 0);
        });
        Edge.of("17 18 19 20 21 22 23 24 25 26 27 28 29", "WHAT COMES OF IT (nothing is changed)", () -> {
            // whichever question comes ahead of a question
            Edge.Call[] questions = {x -> x.picks(1), x -> x.kept(), x -> x.picked(3, 1), x -> x.wear(1, 40), x -> x.unkept(40, 0),
                x -> x.parting(-1), x -> x.parting(1), x -> x.rests(0), x -> x.shun(3, 0), x -> x.rules(1, 3), x -> x.hide(),
                x -> x.lose(3), x -> x.best(), x -> x.judge(5, 3)};
            for (Edge.Call ahead : questions) {
                for (Edge.Call question : questions) {
                    Run alone = Edge.after(Scenes::full);
                    Run x = Edge.after(Scenes::full);
                    ahead.on(x);
                    x.due(question.on(x), question.on(alone));
                }
            }
        });
    }

    private static void ahead() {
        Edge.of("20", "In n MORNINGS (0 to 40) from now on, all by their RULES, none hiding otherwise than now: WEAR "
                + "of a CITIZEN then", () -> {
            Run x = Due.city("citizen 0 0 0 0;citizen 0 0 9 20;citizen 0 0 1 20;hides 1;wear 0 50;wear 1 99;"
                    + "beggar 1 0;beggar 1 0;post 1");
            int[] n = {0, 1, 39, 40};
            int[] passedOver = {50, 48, 0, 0};
            int[] hidden = {99, 97, 21, 19};
            for (int i = 0; i < n.length; i++) {
                x.due(x.wear(0, n[i]), passedOver[i]);
                x.due(x.wear(1, n[i]), hidden[i]);
                x.due(x.wear(2, n[i]), n[i]);
            }
            x.due(x.wear(0, 41), -6);
            x.due(x.wear(0, -1), -6);
            // what now is goes on, and doesn't begin anew
            x.mornings(1);
            x.due(x.wear(1, 39), 19);
            x.due(x.wear(1, 40), 17);
            // so does PASSED: 4 raise the FACE of 0 to that of 1, and then he has none
            Run y = Due.city("citizen 4 0 9 5;citizen 0 0 9 9;hides 0;beggar 1 0");
            y.mornings(4);
            y.due(y.citizenOf(0, 5), 4);
            y.tell(0, 0, 0);
            y.due(y.wear(0, 1), 1);
            y.due(y.wear(1, 1), 2);
            y.due(y.wear(0, 2), 0);
            y.due(y.wear(1, 2), 3);
            // and LAST, to whom the first stays, and MORNINGS, by which the second comes to 0
            Run z = Due.city("citizen 0 0 9 9;citizen 0 0 9 5;beggar 1 4;beggar 2 3");
            z.mornings(1);
            z.tell(0, 2, 0);
            z.due(z.wear(0, 1), 4);
            z.due(z.wear(1, 1), 0);
        });
        Edge.of("21", "how many were unkept on all together", () -> {
            Run x = Due.city("citizen 0 0 0 5;beggar 1 0;beggar 1 1;beggar 1 2;beggar 1 3;beggar 1 4;beggar 1 0");
            x.due(x.unkept(0, 0), 0);
            x.due(x.unkept(1, 0), 6);
            x.due(x.unkept(39, 0), 234);
            x.due(x.unkept(40, 0), 240);
            x.due(x.unkept(41, 0), -16);
            x.due(x.unkept(-1, 0), -16);
            x.tell(0, 3, 6);
            x.due(x.unkept(40, 0), 0);
            x.tell(0, 3, 5);
            x.due(x.unkept(40, 0), 40);
            x.post(0, true);
            x.due(x.unkept(40, 0), 0);
        });
    }

    private static void first() {
        Edge.of("21", "the first MORNING (1 on) on which somebody is; NONE.", () -> {
            // each morning 1 more WEAR, until at 30 or 40 the FACE of 0 is under that of 1, who has nothing
            for (int heart = 11; heart <= 12; heart++) {
                int due = heart == 11 ? 31 : 41;
                Run x = new Run();
                x.citizen(0, 0, 99, heart);
                x.citizen(0, 0, 0, 9);
                x.beggar(1, 0);
                x.due(x.unkept(0, 1), -1);
                x.due(x.unkept(1, 1), -1);
                x.due(x.unkept(due - 1 > 40 ? 40 : due - 1, 1), -1);
                x.due(x.unkept(40, 1), due > 40 ? -1 : due);
                x.mornings(1);
                x.due(x.unkept(40, 1), due - 1);
                x.due(x.unkept(due - 1, 1), due - 1);
                x.due(x.unkept(due - 2, 1), -1);
                x.due(x.unkept(due - 1, 0), 1);
            }
            Run now = Due.city("citizen 0 0 0 9;beggar 1 0");
            now.due(now.unkept(0, 1), -1);
            now.due(now.unkept(1, 1), 1);
            now.due(now.unkept(40, 1), 1);
            now.post(0, true);
            now.due(now.unkept(40, 1), -1);
        });
    }

    private static void parting() {
        Edge.of("22", "PARTING: BEGGARS without POST each to one who doesn't hide, so that of nobody the NEEDS "
                + "together are above his MEANS", () -> {
            Run x = Due.city("citizen 0 0 9 0;citizen 0 0 9 0;beggar 4 0;beggar 5 0");
            x.due(x.parting(-1), 5);
            x.tell(1, 0, 1);
            x.due(x.parting(-1), 9);
            x.due(x.parting(0), 0);
            x.due(x.parting(1), 0);
            x.tell(0, 3, 8);
            x.due(x.parting(-1), -1);
            x.due(x.parting(0), -1);
            x.tell(0, 3, 10);
            x.due(x.parting(-1), 9);
            x.post(1, true);
            x.tell(0, 3, 4);
            x.due(x.parting(-1), 4);
            x.tell(0, 3, 3);
            x.due(x.parting(-1), -1);
            x.tell(1, 0, 0);
            x.due(x.parting(-1), 4);
            x.due(x.parting(0), 1);
            Run full = Due.city("citizen 0 0 54 0;beggar 9 0;beggar 9 0;beggar 9 0;beggar 9 0;beggar 9 0;beggar 9 0");
            full.due(full.parting(-1), 54);
            full.due(full.parting(5), 0);
            full.tell(0, 3, 53);
            full.due(full.parting(-1), -1);
            full.due(full.parting(5), -1);
        });
        Edge.of("22", "how much; whom the i-th of them gets, of several the first by rows; NONE: it can't be.", () -> {
            Run x = Due.city("citizen 0 0 9 0;citizen 0 0 4 0;citizen 0 0 9 0;beggar 4 0;beggar 9 0;beggar 9 0;post 0");
            x.due(x.parting(-2), -15);
            x.due(x.parting(-1), 9);
            x.due(x.parting(0), 0);
            x.due(x.parting(1), 2);
            x.due(x.parting(2), -15);
            x.post(0, false);
            x.due(x.parting(0), 1);
            x.due(x.parting(1), 0);
            x.due(x.parting(2), 2);
            x.due(x.parting(3), -15);
            x.tell(1, 3, 3);
            x.due(x.parting(-1), -1);
            x.due(x.parting(0), -1);
            x.due(x.parting(2), -1);
            x.due(x.parting(3), -15);
            x.due(x.parting(-2), -15);
        });
    }

    private static void partingAmongSeveral() {
        Edge.of("22", "and the greatest sum of anybody's is least", () -> {
            Run x = Due.city("citizen 0 0 99 0;citizen 0 0 99 0;beggar 9 0;beggar 5 0;beggar 4 0;beggar 1 0");
            int[] due = {0, 1, 1, 0};
            x.due(x.parting(-1), 10);
            for (int i = 0; i < due.length; i++) {
                x.due(x.parting(i), due[i]);
            }
            // 5, then 4, then 3, for one who tries by rows; nobody who doesn't come counts
            Run y = Due.city("citizen 0 0 99 0;citizen 0 0 99 0;beggar 3 0;beggar 9 0;beggar 2 0;beggar 1 0;post 1");
            y.due(y.parting(-1), 3);
            y.due(y.parting(0), 0);
            y.due(y.parting(1), 1);
            y.due(y.parting(2), 1);
            // a third citizen, the first row of 9: 9; 5 and 4; 1
            x.citizen(0, 0, 99, 0);
            int[] three = {0, 1, 1, 2};
            x.due(x.parting(-1), 9);
            for (int i = 0; i < three.length; i++) {
                x.due(x.parting(i), three[i]);
            }
        });
        Edge.of("22", "of several the first by rows", () -> {
            Run x = Due.city("citizen 0 0 9 0;citizen 0 0 9 0;beggar 1 0;beggar 1 0;beggar 4 0;beggar 2 0");
            int[] due = {0, 0, 1, 0};
            for (int i = 0; i < due.length; i++) {
                x.due(x.parting(i), due[i]);
            }
            x.due(x.parting(-1), 4);
            x.tell(0, 3, 3);
            int[] tight = {0, 1, 1, 0};
            int[] tighter = {0, 0, 1, 1};
            x.due(x.parting(-1), 5);
            for (int i = 0; i < due.length; i++) {
                x.due(x.parting(i), tight[i]);
            }
            x.tell(0, 3, 4);
            x.due(x.parting(-1), 4);
            for (int i = 0; i < due.length; i++) {
                x.due(x.parting(i), due[i]);
            }
            x.tell(0, 3, 2);
            x.due(x.parting(-1), 6);
            for (int i = 0; i < due.length; i++) {
                x.due(x.parting(i), tighter[i]);
            }
            Run even = Due.city("citizen 0 0 9 0;citizen 0 0 9 0;beggar 3 0;beggar 3 0");
            even.due(even.parting(0), 0);
            even.due(even.parting(1), 1);
        });
        Edge.of("22", "PARTING looks at MEANS alone; without BEGGARS who come it is 0.", () -> {
            // who is EMPTY keeps nobody besides here
            Run x = Due.city("citizen 5 9 3 0;wear 0 99;beggar 4 0");
            x.due(x.parting(-1), -1);
            x.tell(0, 3, 4);
            x.due(x.parting(-1), 4);
            x.post(0, true);
            x.due(x.parting(-1), 0);
            x.due(x.parting(0), -15);
            x.tell(0, 0, 1);
            x.due(x.parting(-1), 0);
            x.post(0, false);
            x.due(x.parting(-1), -1);
            x.due(x.parting(0), -1);
            Run none = new Run();
            none.due(none.parting(-1), 0);
            none.beggar(1, 0);
            none.due(none.parting(-1), -1);
        });
    }

    /** At whom one comes to rest who begins at the first, of so many who all need so much. */
    private static void goes(int means0, int means1, int crowd, int need, int at, int rounds) {
        Run x = new Run();
        x.citizen(0, 0, means0, 0);
        x.citizen(0, 0, means1, 0);
        x.beggar(need, 0);
        for (int i = 1; i < crowd; i++) {
            x.beggar(1, 0);
        }
        x.due(x.rests(0), at);
        x.due(x.rests(-1), rounds);
    }

    private static void has() {
        Edge.of("23", "EACH FOR HIMSELF: a BEGGAR has of the CITIZEN he is at MEANS by how many are there (cut), his "
                + "NEED at most.", () -> {
            // two at 7 have 3 each, at 8 have 4 each; alone at the other he has all of it
            goes(7, 3, 2, 9, 0, 0);
            goes(7, 4, 2, 9, 1, 1);
            goes(8, 4, 2, 9, 0, 0);
            goes(8, 5, 2, 9, 1, 1);
            goes(11, 3, 3, 9, 0, 0);
            goes(11, 4, 3, 9, 1, 1);
            goes(12, 4, 3, 9, 0, 0);
            // no more than he needs, here and there
            goes(8, 9, 1, 8, 0, 0);
            goes(8, 9, 1, 9, 1, 1);
            goes(9, 99, 1, 9, 0, 0);
            goes(2, 99, 1, 2, 0, 0);
            goes(2, 3, 1, 3, 1, 1);
            goes(0, 1, 1, 9, 1, 1);
            goes(0, 0, 1, 9, 0, 0);
            goes(99, 99, 6, 9, 0, 0);
        });
    }

    private static void rests() {
        Edge.of("23", "each goes where he has most (counted with him), of several the first, if that is more than he has", () -> {
            Run x = Due.city("citizen 0 0 4 0;citizen 0 0 4 0;citizen 0 0 5 0;citizen 0 0 6 0;citizen 0 0 6 0;beggar 9 0");
            x.due(x.rests(0), 3);
            x.tell(4, 3, 7);
            x.due(x.rests(0), 4);
            x.tell(0, 3, 7);
            x.due(x.rests(0), 0);
            x.tell(0, 3, 6);
            x.tell(4, 3, 6);
            x.due(x.rests(0), 0);
            // counted with him: 1, who comes behind, would have a half there
            Run y = Due.city("citizen 0 0 2 0;citizen 0 0 9 0;citizen 0 0 5 0;beggar 9 0;beggar 9 0");
            y.due(y.rests(0), 1);
            y.due(y.rests(1), 2);
            y.tell(2, 3, 4);
            y.due(y.rests(1), 1);
            y.tell(1, 3, 4);
            y.tell(2, 3, 2);
            y.due(y.rests(0), 1);
            y.due(y.rests(1), 0);
        });
        Edge.of("23", "From all at the first who doesn't hide, in ROUNDS of all by numbers", () -> {
            Run hidden = Due.city("citizen 0 0 99 0;citizen 0 0 6 0;citizen 0 0 99 0;hides 0;hides 2;beggar 9 0;beggar 9 0");
            hidden.due(hidden.rests(0), 1);
            hidden.due(hidden.rests(1), 1);
            hidden.due(hidden.rests(-1), 0);
            hidden.tell(2, 0, 0);
            hidden.due(hidden.rests(0), 2);
            hidden.due(hidden.rests(1), 2);
            hidden.tell(0, 0, 0);
            hidden.due(hidden.rests(0), 0);
            Run x = Due.city("citizen 0 0 0 0;citizen 0 0 6 0;citizen 0 0 9 0;hides 0;hides 2;beggar 3 0;beggar 3 0;"
                    + "beggar 3 0;post 1");
            x.due(x.rests(0), 1);
            x.due(x.rests(1), -11);
            x.due(x.rests(2), 1);
            x.due(x.rests(-1), 0);
            x.tell(0, 0, 0);
            x.due(x.rests(0), 1);
            x.due(x.rests(2), 1);
            x.due(x.rests(-1), 1);
            x.tell(1, 3, 5);
            x.tell(2, 0, 0);
            x.due(x.rests(0), 1);
            x.due(x.rests(2), 2);
            // the first by numbers goes, and the second may stay
            Run y = Due.city("citizen 0 0 9 0;citizen 0 0 9 0;beggar 9 0;beggar 9 0");
            y.due(y.rests(0), 1);
            y.due(y.rests(1), 0);
            y.due(y.rests(-1), 1);
        });
    }

    private static void rounds() {
        // the most ROUNDS that a city was found to go, by draws and by climbing, are 5: 20 and NO REST can't be tried
        Edge.of("23", "till a ROUND in which nobody goes: how many ROUNDS went with a move (20 at most); at whom one is then; "
                + "NONE: no REST in 20, all hide.", () -> {
            Run none = new Run();
            none.due(none.rests(-1), -1);
            none.citizen(0, 0, 9, 0);
            none.due(none.rests(-1), 0);
            none.beggar(9, 0);
            none.due(none.rests(-1), 0);
            none.due(none.rests(0), 0);
            none.tell(0, 0, 1);
            none.due(none.rests(-1), -1);
            none.due(none.rests(0), -1);
            none.post(0, true);
            none.due(none.rests(-1), -1);
            none.due(none.rests(0), -11);
            // one goes
            resting("citizen 0 0 0 0;citizen 0 0 1 0;beggar 9 0", 1, 1);
            // 0 goes to 1, whither the others follow, who have no more elsewhere; then 0 has 3 there, and 4 at 2
            resting("citizen 0 0 0 0;citizen 0 0 9 0;citizen 0 0 4 0;beggar 9 0;beggar 1 0;beggar 1 0", 2, 2, 1, 1);
            // 0 to 2, 1 to 1, 2 to 1; then 1 to 2; then 0 to 3
            resting("citizen 0 0 1 0;citizen 0 0 5 0;citizen 0 0 9 0;citizen 0 0 9 0;beggar 8 0;beggar 3 0;beggar 2 0", 3, 3, 2, 1);
            // 0 to 3, 1 to 2, 2 to 1, 3 to 1; then 2 to 2; then 1 to 3; then 0 to 4
            resting("citizen 0 0 0 0;citizen 0 0 3 0;citizen 0 0 6 0;citizen 0 0 13 0;citizen 0 0 7 0;"
                    + "beggar 9 0;beggar 5 0;beggar 3 0;beggar 1 0", 4, 4, 3, 2, 1);
            // 0 to 2, 1 to 3, 2 to 2, 3 to 1, 4 to 2, 5 to 1; then 0 to 4, 3 to 2; then 2 to 3; then 1 to 4; then 0 to 5
            Run full = Due.city("citizen 0 0 0 0;citizen 0 0 3 0;citizen 0 0 11 0;citizen 0 0 8 0;citizen 0 0 13 0;citizen 0 0 14 0");
            for (int need : new int[] {9, 6, 4, 3, 2, 1}) {
                full.beggar(need, 0);
            }
            resting(full, 5, 5, 4, 3, 2, 2, 1);
        });
        Edge.of("23", "EACH FOR HIMSELF: 20 ROUNDS with a move, and none in the next one, are 20.", () -> {
            // likewise of fewer: the ROUND in which nobody goes isn't counted
            resting("citizen 0 0 9 0;citizen 0 0 9 0;beggar 9 0", 0, 0);
            resting("citizen 0 0 8 0;citizen 0 0 9 0;beggar 9 0", 1, 1);
            resting("citizen 0 0 8 0;citizen 0 0 9 0;beggar 9 0;beggar 9 0", 1, 1, 0);
        });
    }

    private static void resting(String text, int rounds, int... at) {
        resting(Due.city(text), rounds, at);
    }

    private static void resting(Run x, int rounds, int... at) {
        x.due(x.rests(-1), rounds);
        for (int b = 0; b < at.length; b++) {
            x.due(x.rests(b), at[b]);
        }
        x.due(x.rests(-1), rounds);
    }

    /** A city of two, of whom only one's HEART is asked: 0 stands ahead of the other, 1 behind him. */
    private static Run pair(int asked, int otherHeart, int rule) {
        Run x = new Run();
        x.citizen(0, 0, 0, asked == 0 ? 7 : otherHeart);
        x.citizen(0, 0, 0, asked == 0 ? otherHeart : 7);
        x.beggar(1, rule);
        return x;
    }

    private static void shun() {
        Edge.of("24", "SHUN of a CITIZEN: the greatest HEART (0 to 20) by which nobody picks him (all else as it is); "
                + "NONE.", () -> {
            int[] hearts = {0, 1, 19, 20};
            for (int heart : hearts) {
                Run ahead = pair(0, heart, 0);
                ahead.due(ahead.shun(0, 0), heart - 1);
                Run behind = pair(1, heart, 0);
                behind.due(behind.shun(1, 0), heart);
                Run angry = pair(0, heart, 1);
                angry.due(angry.shun(0, 0), heart == 20 ? -1 : 20);
                Run angryBehind = pair(1, heart, 1);
                angryBehind.due(angryBehind.shun(1, 0), 20);
                angryBehind.due(angryBehind.citizenOf(1, 3), 7);
            }
            Run x = pair(0, 5, 0);
            x.tell(0, 1, 50);
            x.due(x.shun(0, 0), 9);
            x.due(x.shun(1, 0), 2);
            x.post(0, true);
            x.due(x.shun(0, 0), 20);
            x.post(0, false);
            x.tell(1, 0, 1);
            x.due(x.shun(0, 0), -1);
            Run blind = Due.city("citizen 0 0 9 9;citizen 0 0 9 9;beggar 1 3");
            blind.due(blind.shun(0, 0), -1);
            blind.due(blind.shun(1, 0), 20);
        });
    }

    private static void draw() {
        Edge.of("24", "DRAW of one: the least HEART by which somebody does; NONE.", () -> {
            int[] hearts = {0, 1, 19, 20};
            for (int heart : hearts) {
                Run ahead = pair(0, heart, 0);
                ahead.due(ahead.shun(0, 1), heart);
                Run behind = pair(1, heart, 0);
                behind.due(behind.shun(1, 1), heart == 20 ? -1 : heart + 1);
                Run angry = pair(0, heart, 1);
                angry.due(angry.shun(0, 1), 0);
                Run angryBehind = pair(1, heart, 1);
                angryBehind.due(angryBehind.shun(1, 1), heart == 0 ? -1 : 0);
                angryBehind.due(angryBehind.citizenOf(1, 3), 7);
            }
            Run x = pair(0, 5, 0);
            x.tell(0, 1, 50);
            x.due(x.shun(0, 1), 10);
            x.due(x.shun(1, 1), 3);
            x.post(0, true);
            x.due(x.shun(0, 1), -1);
            Run blind = Due.city("citizen 0 0 9 9;citizen 0 0 9 9;beggar 1 3");
            blind.due(blind.shun(0, 1), 0);
            blind.due(blind.shun(1, 1), -1);
        });
    }

    private static void rules() {
        Edge.of("25", "RULES (bits 0 to 4) by which a BEGGAR would pick a told CITIZEN, all others by theirs.", () -> {
            Run x = Due.city("citizen 0 0 9 5;beggar 1 0");
            x.due(x.rules(0, 0), 31);
            x.tell(0, 0, 1);
            x.due(x.rules(0, 0), 0);
            // by FACES and faithfully 1, in anger 0, by fewest 2, blind 3
            Run y = Due.city("citizen 0 0 9 5;citizen 0 0 9 9;citizen 0 0 9 8;citizen 0 0 9 7;beggar 1 0;beggar 1 1;"
                    + "beggar 1 1;beggar 1 1");
            y.due(y.rules(3, 0), 2);
            y.due(y.rules(3, 1), 17);
            y.due(y.rules(3, 2), 4);
            y.due(y.rules(3, 3), 8);
            y.due(y.rules(0, 0), 10);
            y.due(y.rules(0, 1), 21);
            y.due(y.rules(1, 1), 25);
            y.mornings(1);
            // 3 picked 0 in anger, and would stay faithful to him; blind he is at 3 and 1 modulo 4
            y.due(y.rules(3, 0), 2 | 8 | 16);
            y.due(y.rules(3, 1), 1);
        });
    }

    private static void hide() {
        Edge.of("26", "HIDE: whom of those who don't hide it would ease most to hide now: who has the greatest BURDEN "
                + "(alone hidden he has none), "
                + "of several the first; NONE: none has any.", () -> {
            Run x = Due.city("citizen 0 0 9 5;citizen 0 0 9 9;beggar 4 1;beggar 4 0");
            x.due(x.hide(), 0);
            x.tell(0, 3, 3);
            x.due(x.hide(), 1);
            x.tell(1, 3, 3);
            x.due(x.hide(), -1);
            x.tell(0, 3, 4);
            x.due(x.hide(), 0);
            x.tell(1, 3, 9);
            x.beggar(1, 0);
            x.due(x.hide(), 1);
            x.beggar(1, 1);
            x.due(x.hide(), 1);
            x.tell(0, 3, 5);
            x.due(x.hide(), 0);
            x.tell(0, 0, 1);
            x.due(x.hide(), 1);
            x.tell(1, 0, 1);
            x.due(x.hide(), -1);
            Run none = new Run();
            none.due(none.hide(), -1);
            none.citizen(0, 0, 9, 9);
            none.due(none.hide(), -1);
            none.beggar(1, 0);
            none.due(none.hide(), 0);
            none.post(0, true);
            none.due(none.hide(), -1);
            Run besides = Due.city("citizen 5 1 0 9;beggar 1 0");
            besides.due(besides.hide(), 0);
        });
    }

    private static void lose() {
        Edge.of("26 28", "hide()`: HIDE; NONE.", () -> {
            Run x = Due.city("citizen 0 0 1 5;beggar 1 0");
            x.due(x.hide(), 0);
            x.due(x.best(), 0);
            x.tell(0, 3, 0);
            x.due(x.hide(), -1);
            x.due(x.best(), 0);
            x.post(0, true);
            x.due(x.hide(), -1);
            x.due(x.best(), -1);
        });
        Edge.of("27", "LOSE: how many more go unkept if one hides now (it may be fewer: below 0).", () -> {
            Run x = Due.city("citizen 0 0 9 5;citizen 0 0 9 4;beggar 4 0;beggar 5 0");
            x.due(x.lose(0), 0);
            x.due(x.lose(1), 0);
            x.tell(1, 3, 8);
            x.due(x.lose(0), 1);
            x.tell(1, 3, 3);
            x.due(x.lose(0), 2);
            x.tell(0, 3, 3);
            x.due(x.lose(0), 0);
            x.tell(1, 3, 5);
            x.due(x.lose(0), -1);
            x.tell(1, 3, 9);
            x.due(x.lose(0), -2);
            x.due(x.lose(1), 0);
            x.tell(1, 0, 1);
            x.due(x.lose(0), 0);
            x.due(x.lose(1), -106);
            x.tell(0, 3, 9);
            x.due(x.lose(0), 2);
            Run six = Due.city("citizen 0 0 54 5;citizen 0 0 0 5;beggar 9 0;beggar 9 0;beggar 9 0;beggar 9 0;"
                    + "beggar 9 0;beggar 9 0");
            six.due(six.lose(0), 6);
            six.tell(0, 3, 0);
            six.tell(1, 3, 54);
            six.due(six.lose(0), -6);
        });
    }

    private static void post() {
        Edge.of("28", "POST: the BEGGAR without POST by whose POST fewest of the others go unkept, of several the "
                + "first; NONE: all have.", () -> {
            Run x = Due.city("citizen 0 0 6 5;beggar 3 0;beggar 6 0;beggar 3 0;beggar 6 0");
            // by 0's post 6 is kept, and 3 and 6 go unkept; by 1's, 3 and 3 are kept; by 2's 3; by 3's 3 and 3
            x.due(x.best(), 1);
            x.post(1, true);
            // now 6 alone goes unkept: by 0's post 6, by 2's 6, by 3's nobody
            x.due(x.best(), 3);
            x.post(3, true);
            x.due(x.best(), 0);
            x.post(0, true);
            x.due(x.best(), 2);
            x.post(2, true);
            x.due(x.best(), -1);
            x.due(x.status(6), 4);
            Run none = new Run();
            none.due(none.best(), -1);
            none.beggar(9, 0);
            none.due(none.best(), 0);
            none.beggar(9, 0);
            none.due(none.best(), 0);
            none.post(0, true);
            none.due(none.best(), 1);
        });
    }

    private static Run fileOfThree() {
        Run x = Due.city("citizen 0 0 9 5;citizen 0 0 9 9;beggar 1 0;beggar 1 0;beggar 1 1;beggar 1 0;post 1");
        x.row(0, 0, 45);
        x.set(0, 0, 1L);
        x.set(0, 2, 1L);
        return x;
    }

    private static void judge() {
        Edge.of("29", "A told MORNING: a ROW of whom they pick, one behind the other as in THE FILE (NONE: nobody): "
                + "WRONG: the first that isn't so", () -> {
            Run x = fileOfThree();
            x.due(x.judge(0, 3), -1);
            for (int i = 0; i < 3; i++) {
                long right = x.element(0, i);
                for (long wrong : new long[] {1 - right, -1, 2, 127, -128}) {
                    x.set(0, i, wrong);
                    x.due(x.judge(0, 3), i);
                    x.due(x.judge(0, i + 1), i);
                    x.due(x.judge(0, i), i);
                    if (i < 2) {
                        x.set(0, i + 1, 7L);
                        x.due(x.judge(0, 3), i);
                        x.set(0, i + 1, i == 0 ? 0L : 1L);
                    }
                }
                x.set(0, i, right);
            }
            x.due(x.judge(0, 3), -1);
            x.tell(0, 0, 1);
            x.due(x.judge(0, 3), 1);
            x.tell(1, 0, 1);
            x.due(x.judge(0, 3), 0);
            x.set(0, 0, -1L);
            x.due(x.judge(0, 3), 1);
            x.set(0, 1, -1L);
            x.set(0, 2, -1L);
            x.due(x.judge(0, 3), -1);
            x.set(0, 2, -2L);
            x.due(x.judge(0, 3), 2);
        });
    }

    private static void judgeCount() {
        Edge.of("29", "(as many elements as come in THE FILE; more is WRONG at the first too many, fewer is WRONG at "
                + "n); NONE.", () -> {
            Run x = fileOfThree();
            int[] due = {0, 1, 2, -1, 3, 3};
            for (int n = 0; n < due.length; n++) {
                x.due(x.judge(0, n), due[n]);
            }
            x.due(x.judge(0, 40), 3);
            x.due(x.judge(0, 41), -16);
            x.due(x.judge(0, -1), -14);
            x.post(1, false);
            x.due(x.judge(0, 2), 1);
            x.set(0, 1, 1L);
            x.set(0, 2, 0L);
            x.set(0, 3, 1L);
            x.due(x.judge(0, 3), 3);
            x.due(x.judge(0, 4), -1);
            x.due(x.judge(0, 5), 4);
            for (int b = 0; b < 4; b++) {
                x.post(b, true);
            }
            x.due(x.judge(0, 0), -1);
            x.due(x.judge(0, 1), 0);
            Run none = new Run();
            none.row(0, 2, 0);
            none.due(none.judge(0, 0), -1);
            none.due(none.judge(0, 1), -15);
            none.row(0, 2, 1);
            none.set(0, 0, -1L);
            none.due(none.judge(0, 1), 0);
        });
        Edge.of("29", "A told MORNING by the first n elements (0 to 40) of the ROW in SHELF s", () -> {
            Run x = fileOfThree();
            for (int size : new int[] {0, 3, 39, 40, 41, 160}) {
                x.row(1, 0, size);
                x.due(x.judge(1, Math.min(size, 40)), 0);
                x.due(x.judge(1, size), size > 40 ? -16 : 0);
                x.due(x.judge(1, size + 1), -15);
            }
        });
    }
}
