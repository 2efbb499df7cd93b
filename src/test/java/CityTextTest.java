/** Promises 15 and 16: city, fault. */
public final class CityTextTest {
    public static void main(String[] args) {
        refusals();
        reads();
        faults();
        room();
        whole();
        longs();
        Due.end();
    }

    private static void fault(String text, int place) {
        Run x = new Run();
        x.citizen(0, 1, 2, 3);
        x.beggar(1, 0);
        Due.write(x, 0, text);
        Due.is("city of '" + text + "'", x.city(0), -6);
        Due.is("fault of '" + text + "'", x.fault(), place);
        Due.is("citizens as before", x.status(0), 1);
        Due.is("beggars as before", x.status(1), 1);
        Due.is("wear as before", x.status(3), 0);
        Due.is("refusals", x.status(16), 1);
    }

    private static void refusals() {
        Run x = new Run();
        Due.write(x, 0, "citizen 7");
        Due.is("a fault", x.city(0), -6);
        Due.is("its place", x.fault(), 8);
        Due.is("no shelf", x.city(8), -1);
        Due.is("no shelf -1", x.city(-1), -1);
        Due.is("nothing", x.city(1), -3);
        x.citizen(0, 0, 0, 0);
        x.show(1, 0);
        Due.is("a citizen", x.city(1), -2);
        Due.is("the fault stays", x.fault(), 8);
        Due.write(x, 0, "hides 0");
        Due.is("one item", x.city(0), 1);
        Due.is("no fault now", x.fault(), -1);
    }

    private static void reads() {
        Run x = new Run();
        Due.write(x, 0, "citizen 6 09 99 20;beggar 09 04;wear 00 05;hides 0");
        Due.is("items", x.city(0), 4);
        int[] want = {6, 9, 99, 20, 5, 0, 1};
        for (int what = 0; what < want.length; what++) {
            Due.is("citizenOf(0, " + what + ")", x.citizenOf(0, what), want[what]);
        }
        Due.is("need", x.beggarOf(0, 0), 9);
        Due.is("rule", x.beggarOf(0, 1), 4);
        // told over what there is
        Due.write(x, 0, "citizen 0 0 0 0;wear 1 99;comes 0;post 0;post 0;beggar 1 0");
        Due.is("items", x.city(0), 6);
        Due.is("citizens", x.status(0), 2);
        Due.is("beggars", x.status(1), 2);
        Due.is("wear of 1", x.citizenOf(1, 4), 99);
        Due.is("wear of 0", x.citizenOf(0, 4), 5);
        Due.is("comes", x.citizenOf(0, 6), 0);
        Due.is("post", x.beggarOf(0, 4), 1);
        Due.is("mornings", x.status(2), 0);
    }

    private static void faults() {
        fault("", 0);
        fault("x", 0);
        fault(" ", 0);
        fault(";", 0);
        fault("Citizen", 0);
        fault("c", 1);
        fault("cx", 1);
        fault("citizem", 6);
        fault("comet", 4);
        fault("wearx", 4);
        fault("wear", 4);
        fault("wear  0", 5);
        fault("wear 0", 6);
        fault("wear 0;", 6);
        fault("wear 1 0", 5);
        fault("wear 0 000", 9);
        fault("wear 0 5 ", 8);
        fault("wear 0 5;", 9);
        fault("wear 0 5;;", 9);
        fault("wear 0 5; ", 9);
        fault("wear 0 5;hides 1", 15);
        fault("hides 01", 6);
        fault("hides", 5);
        fault("hides ", 6);
        fault("hides -1", 6);
        fault("hides 0 0", 7);
        fault("comes 9", 6);
        fault("post 1", 5);
        fault("post 001", 7);
        fault("post 0;posx", 10);
        fault("citizen 7 x", 8);
        fault("citizen 07 0 0 0", 8);
        fault("citizen 0 10 0 0", 10);
        fault("citizen 0 9 100 0", 14);
        fault("citizen 0 9 99 21", 15);
        fault("citizen 0 9 99 20 ", 17);
        fault("citizen 0 9 99 2a", 16);
        fault("citizen 0 9 99", 14);
        fault("beggar 0", 7);
        fault("beggar 00 0", 7);
        fault("beggar 10 0", 7);
        fault("beggar 1 5", 9);
        fault("beggar 1", 8);
        fault("beggar 1 ", 9);
        fault("beggar 1 4;beggar 1 4;citizen 0 0 0 0;hides 2", 44);
    }

    private static void room() {
        Run x = new Run();
        for (int i = 0; i < 5; i++) {
            x.citizen(0, 0, 0, 0);
            x.beggar(1, 0);
        }
        String sixth = "citizen 0 0 0 0;";
        place(x, sixth + "citizen 0 0 0 0", 16);
        place(x, sixth + "citizen", 16);
        place(x, sixth + "citizenx", 16);
        place(x, sixth + "citize", 22);
        place(x, sixth + "citizex", 22);
        place(x, "beggar 1 0;beggar", 11);
        place(x, "beggar 1 0;begga", 16);
        place(x, "beggar 1 0;beggax", 16);
        Due.is("none came", x.status(0) + x.status(1), 10);
        Due.write(x, 0, sixth + "beggar 1 0;hides 5;post 5");
        Due.is("the sixth", x.city(0), 4);
        Due.is("citizen 5 hides", x.citizenOf(5, 6), 1);
        Due.is("beggar 5 has a post", x.beggarOf(5, 4), 1);
        place(x, "citizen 9", 0);
    }

    private static void place(Run x, String text, int place) {
        Due.write(x, 0, text);
        Due.is("city of '" + text + "'", x.city(0), -6);
        Due.is("fault of '" + text + "'", x.fault(), place);
    }

    /** A row of 160 elements, all of them read. */
    private static void whole() {
        StringBuilder text = new StringBuilder("citizen 0 0 0 0");
        int items = 1;
        while (text.length() + 8 <= 160) {
            text.append(";hides 0");
            items++;
        }
        while (text.length() < 160) {
            text.append(';');
        }
        Run x = new Run();
        place(x, text.toString(), text.indexOf(";;") < 0 ? 160 : text.indexOf(";;") + 1);
        Due.write(x, 0, text.substring(0, 15 + 8 * (items - 1)));
        Due.is("items", x.city(0), items);
    }

    /** Elements count by their lowest 32 bits, as ints. */
    private static void longs() {
        String text = "citizen 1 2 3 4";
        for (int sort = 0; sort < 4; sort++) {
            Run x = new Run();
            Due.write(x, 0, sort, text);
            x.set(0, 0, 'c' + (1L << 40));
            Due.is("city of sort " + sort, x.city(0), 1);
            x.set(0, 0, 'c' + 256L);
            Due.is("city of sort " + sort, x.city(0), sort == 0 ? 1 : -6);
            x.set(0, 0, -1L);
            Due.is("city of -1", x.city(0), -6);
            Due.is("fault", x.fault(), 0);
            x.row(0, sort, 4);
            x.set(0, 0, 'w');
            x.set(0, 1, 'e');
            x.set(0, 2, 'a');
            x.set(0, 3, -1L);
            Due.is("city of wea-1", x.city(0), -6);
            Due.is("fault", x.fault(), 3);
        }
    }
}
