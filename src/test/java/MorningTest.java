/** Promises 17 to 21 and 30: picks, kept, picked, wear, unkept, mornings. */
public final class MorningTest {
    public static void main(String[] args) {
        rules();
        fewest();
        blind();
        faithful();
        keeping();
        behind();
        ahead();
        refusals();
        Due.end();
    }

    private static void rules() {
        Run x = Due.city("citizen 0 0 9 5;citizen 0 0 9 9;citizen 0 0 9 9;citizen 0 0 9 5;beggar 1 0;beggar 1 1");
        Due.rows("the first of several", Due.picks(x), 1, 0);
        x.tell(0, 0, 1);
        x.tell(1, 0, 1);
        Due.rows("who doesn't hide", Due.picks(x), 2, 3);
        x.post(1, true);
        Due.rows("who has a post", Due.picks(x), 2, -1);
        x.tell(2, 0, 1);
        x.tell(3, 0, 1);
        Due.rows("all hide", Due.picks(x), -1, -1);
        Due.is("kept()", x.kept(), 0);
        Due.is("no citizens", Due.city("beggar 1 3").picks(0), -1);
    }

    private static void fewest() {
        Run x = Due.city("citizen 0 0 0 5;citizen 0 0 0 9;citizen 0 0 0 9;"
                + "beggar 1 0;beggar 1 2;beggar 1 2;beggar 1 2;beggar 1 2;beggar 1 1");
        Due.rows("fewest, then face, then first", Due.picks(x), 1, 2, 0, 1, 2, 0);
        x.tell(0, 0, 1);
        Due.rows("none who hides", Due.picks(x), 1, 2, 1, 2, 1, 1);
    }

    private static void blind() {
        Run x = Due.city("citizen 0 0 0 5;citizen 0 0 0 9;citizen 0 0 0 9;citizen 0 0 0 9;hides 1;"
                + "beggar 1 3;beggar 1 3;beggar 1 3;beggar 1 3;beggar 1 3;beggar 1 3");
        Due.rows("blind", Due.picks(x), 0, 2, 3, 0, 2, 3);
        x.post(0, true);
        Due.rows("by his own number", Due.picks(x), -1, 2, 3, 0, 2, 3);
        x.mornings(1);
        Due.rows("and the mornings", Due.picks(x), -1, 3, 0, 2, 3, 0);
    }

    private static void faithful() {
        Run x = Due.city("citizen 0 0 9 5;citizen 0 0 9 9;beggar 9 4");
        Due.is("as faces", x.picks(0), 1);
        Due.is("last", x.beggarOf(0, 2), -1);
        Due.is("one morning", x.mornings(1), 0);
        Due.is("last", x.beggarOf(0, 2), 1);
        x.tell(1, 2, 0);
        Due.is("faithful", x.picks(0), 1);
        x.tell(1, 0, 1);
        Due.is("he hides", x.picks(0), 0);
        x.tell(0, 0, 1);
        Due.is("all hide", x.mornings(1), 1);
        Due.is("last stays", x.beggarOf(0, 2), 1);
        Due.is("hunger", x.beggarOf(0, 3), 1);
        x.tell(0, 0, 0);
        x.mornings(1);
        Due.is("last is another", x.beggarOf(0, 2), 0);
        Due.is("no hunger", x.beggarOf(0, 3), 0);
    }

    private static void keeping() {
        Run x = Due.city("citizen 0 9 7 9;beggar 5 0;beggar 3 0;beggar 2 0;beggar 1 0");
        Due.is("those behind may be kept yet", x.kept(), 5);
        Due.is("picked", x.picked(0, 0), 15);
        Due.is("burden", x.picked(0, 1), 7);
        Run y = Due.city("citizen 5 3 4 9;beggar 3 0;beggar 4 0;beggar 1 0;beggar 5 0");
        Due.is("empty keeps besides", y.kept(), 7);
        Due.is("burden has them", y.picked(0, 1), 8);
        y.tell(0, 3, 3);
        Due.is("kept besides alone", y.kept(), 5);
        y.tell(0, 3, 0);
        Due.is("whatever his means", y.kept(), 5);
        Due.is("others don't", Due.city("citizen 4 9 0 9;beggar 1 0").kept(), 0);
    }

    private static void behind() {
        Run x = Due.city("citizen 0 0 9 9;citizen 0 0 9 5;citizen 0 0 9 0;wear 1 1;wear 2 9;hides 2;"
                + "beggar 7 0;beggar 3 0;beggar 9 0;post 2");
        Due.is("unkept", x.mornings(1), 1);
        Due.is("mornings", x.status(2), 1);
        Due.is("wear, more", x.citizenOf(0, 4), 7);
        Due.is("wear, less", x.citizenOf(1, 4), 0);
        Due.is("wear of who hides", x.citizenOf(2, 4), 7);
        Due.is("passed", x.citizenOf(0, 5), 0);
        Due.is("passed", x.citizenOf(1, 5), 1);
        Due.is("passed of who hides", x.citizenOf(2, 5), 1);
        Due.is("hunger", x.beggarOf(1, 3), 1);
        Due.is("no hunger", x.beggarOf(0, 3), 0);
        Due.is("who has a post isn't hungry", x.beggarOf(2, 3), 0);
        Due.is("nor has he a last", x.beggarOf(2, 2), -1);
        Due.is("last of one turned away", x.beggarOf(1, 2), 0);
        x.tell(0, 3, 0);
        x.tell(0, 2, 20);
        x.mornings(1);
        Due.is("picked, none kept: no less", x.citizenOf(0, 4), 7);
        x.mornings(60);
        x.mornings(60);
        Due.is("hunger to 99", x.beggarOf(1, 3), 99);
        Due.is("hunger to 99", x.status(4), 198);
        Due.is("passed to 9", x.citizenOf(1, 5), 9);
        x.tell(0, 3, 99);
        x.tell(0, 1, 95);
        x.mornings(1);
        Due.is("wear to 99", x.citizenOf(0, 4), 99);
        Due.is("no hunger", x.status(4), 0);
    }

    private static void ahead() {
        Run x = Due.city("citizen 0 0 9 10;citizen 4 0 3 9;beggar 5 0;beggar 4 0");
        Due.is("wear in none", x.wear(0, 0), 0);
        Due.is("wear in one", x.wear(0, 1), 9);
        Due.is("none unkept", x.unkept(1, 0), 0);
        // 10 and 9, then 10 and 10, then 9 and 11, who keeps nobody
        Due.is("none unkept in two", x.unkept(2, 0), 0);
        Due.is("unkept in three", x.unkept(3, 0), 2);
        Due.is("the first", x.unkept(3, 1), 3);
        Due.is("none in two", x.unkept(2, 1), -1);
        Due.is("none in none", x.unkept(0, 1), -1);
        x.wear(0, 40);
        x.unkept(40, 0);
        Due.is("nothing is changed", x.status(2) + x.status(3) + x.status(4), 0);
        Due.is("no passed", x.citizenOf(1, 5), 0);
    }

    private static void refusals() {
        Run x = Due.city("citizen 0 0 9 10;beggar 1 0");
        Due.is("picks(1)", x.picks(1), -11);
        Due.is("picks(-1)", x.picks(-1), -11);
        Due.is("picked(1, 2)", x.picked(1, 2), -1);
        Due.is("picked(0, 2)", x.picked(0, 2), -5);
        Due.is("picked(0, -1)", x.picked(0, -1), -5);
        Due.is("wear(1, 41)", x.wear(1, 41), -1);
        Due.is("wear(0, 41)", x.wear(0, 41), -6);
        Due.is("wear(0, -1)", x.wear(0, -1), -6);
        Due.is("unkept(41, 2)", x.unkept(41, 2), -15);
        Due.is("unkept(41, 0)", x.unkept(41, 0), -16);
        Due.is("unkept(-1, 1)", x.unkept(-1, 1), -16);
        Due.is("mornings(0)", x.mornings(0), -6);
        Due.is("mornings(61)", x.mornings(61), -6);
        Due.is("refusals -1", x.status(11), 4);
        Due.is("refusals -5", x.status(15), 3);
        Due.is("refusals -6", x.status(16), 6);
        Due.is("no morning", x.status(2), 0);
    }
}
