/** The edges of a CITY's text. */
final class EdgesOfText {
    private EdgesOfText() {
    }

    static void all() {
        items();
        numbers();
        people();
        blanks();
        orNothing();
        faults();
        words();
        rooms();
        longs();
    }

    /** A city of two citizens and a beggar, to which a text is told. */
    private static Run told(String text) {
        Run x = new Run();
        x.citizen(0, 1, 2, 3);
        x.citizen(0, 4, 5, 6);
        x.beggar(7, 1);
        Due.write(x, 0, text);
        return x;
    }

    private static Run stands(String text, int items) {
        Run x = told(text);
        x.due(x.city(0), items);
        x.due(x.fault(), -1);
        return x;
    }

    private static void fault(String text, int place) {
        Run x = told(text);
        x.due(x.city(0), -6);
        x.due(x.fault(), place);
        x.due(x.status(16), 1);
        x.due(x.status(0), 2);
        x.due(x.status(1), 1);
    }

    private static String times(int n, String item) {
        return String.join(";", java.util.Collections.nCopies(n, item));
    }

    private static void items() {
        Edge.of("15", "A CITY is read from a ROW of letters: ITEM, then any number of times ; and ITEM", () -> {
            fault("", 0);
            stands("hides 0", 1);
            stands("hides 0;hides 1", 2);
            stands("hides 0;hides 0;comes 0", 3);
            stands(times(20, "hides 0"), 20);
            stands(times(22, "post 0"), 22);
            stands(times(19, "hides 0") + ";wear 0 9", 20);
            fault(times(20, "hides 0") + ";", 160);
            fault(";hides 0", 0);
            fault("hides 0;", 8);
            fault("hides 0;;hides 0", 8);
            fault("hides 0,hides 0", 7);
            fault("hides 0 hides 0", 7);
            fault("hides 0hides 0", 7);
        });
    }

    /** What stands at each end of what a number may be, and the place of the fault beside it. */
    private static void numbers() {
        Edge.of("15", "citizen K A M H", () -> {
            stands("citizen 0 0 0 0", 1);
            Run x = stands("citizen 6 9 99 20", 1);
            int[] due = {6, 9, 99, 20, 0, 0, 0};
            for (int what = 0; what < due.length; what++) {
                x.due(x.citizenOf(2, what), due[what]);
            }
            fault("citizen 7 0 0 0", 8);
            fault("citizen 0 10 0 0", 10);
            fault("citizen 0 0 0 21", 14);
            fault("citizen 0 0 100 0", 14);
            fault("citizen 99 0 0 0", 8);
            fault("citizen 0 0 0", 13);
            fault("citizen 0 0 0 0 0", 15);
        });
        Edge.of("15", "beggar N R", () -> {
            stands("beggar 1 0", 1);
            Run x = stands("beggar 9 4", 1);
            x.due(x.beggarOf(1, 0), 9);
            x.due(x.beggarOf(1, 1), 4);
            x.due(x.beggarOf(1, 2), -1);
            x.due(x.beggarOf(1, 3), 0);
            x.due(x.beggarOf(1, 4), 0);
            fault("beggar 0 0", 7);
            fault("beggar 10 0", 7);
            fault("beggar 1 5", 9);
            fault("beggar 1", 8);
            fault("beggar 1 0 0", 10);
        });
        Edge.of("15", "wear C N", () -> {
            Run x = stands("wear 0 0;wear 1 99", 2);
            x.due(x.citizenOf(0, 4), 0);
            x.due(x.citizenOf(1, 4), 99);
            x = stands("wear 1 99;wear 1 1", 2);
            x.due(x.citizenOf(0, 4), 0);
            x.due(x.citizenOf(1, 4), 1);
            fault("wear 2 0", 5);
            fault("wear 0 100", 9);
            fault("wear 0", 6);
            fault("wear 0 0 0", 8);
        });
        Edge.of("15", "Numbers of a text may begin with 0.", () -> {
            Run x = stands("citizen 06 09 09 09;beggar 09 04;wear 01 00;hides 00;post 00", 5);
            x.due(x.citizenOf(2, 0), 6);
            x.due(x.citizenOf(2, 3), 9);
            x.due(x.beggarOf(1, 0), 9);
            x.due(x.citizenOf(0, 6), 1);
            x.due(x.beggarOf(0, 4), 1);
            stands("citizen 00 00 00 00", 1);
            fault("citizen 07 0 0 0", 8);
            fault("beggar 00 0", 7);
            fault("hides 02", 6);
            fault("hides 000", 8);
        });
    }

    private static void people() {
        Edge.of("15", "hides C; comes C (he doesn't hide); post B", () -> {
            Run x = stands("hides 1;hides 0;hides 1;comes 0", 4);
            x.due(x.citizenOf(0, 6), 0);
            x.due(x.citizenOf(1, 6), 1);
            x = stands("comes 1;post 0;post 0", 3);
            x.due(x.citizenOf(1, 6), 0);
            x.due(x.beggarOf(0, 4), 1);
            fault("hides 2", 6);
            fault("comes 2", 6);
            fault("post 1", 5);
            fault("hides 0 0", 7);
            fault("comes 0 0", 7);
            fault("post 0 0", 6);
        });
        Edge.of("15", "All is told over what there is", () -> {
            // there is what the same text told before
            Run x = stands("citizen 3 0 0 0;hides 2;beggar 2 2;post 1;wear 2 8", 5);
            x.due(x.citizenOf(2, 6), 1);
            x.due(x.citizenOf(2, 4), 8);
            x.due(x.beggarOf(1, 4), 1);
            x.due(x.citizenOf(1, 1), 4);
            x.due(x.beggarOf(0, 4), 0);
            fault("hides 2;citizen 3 0 0 0", 6);
            fault("post 1;beggar 2 2", 5);
            fault("citizen 3 0 0 0;hides 3", 22);
            fault("beggar 2 2;post 2", 16);
            Run none = new Run();
            Due.write(none, 0, "hides 0");
            none.due(none.city(0), -6);
            none.due(none.fault(), 6);
            Due.write(none, 0, "post 0");
            none.due(none.city(0), -6);
            none.due(none.fault(), 5);
        });
    }

    private static void blanks() {
        Edge.of("15", "One blank between words and NUMBERS (1 to 2 digits).", () -> {
            stands("wear 0 1", 1);
            stands("wear 0 11", 1);
            fault("wear 0 111", 9);
            fault("wear 0 ", 7);
            fault("wear 0  1", 7);
            fault("wear0 1", 4);
            fault("wear  0 1", 5);
            fault("wear 01", 7);
            fault("wear 0 1 ", 8);
            fault(" wear 0 1", 0);
            fault("hides 0 ;hides 0", 7);
            fault("hides 0; hides 0", 8);
            fault("hides -1", 6);
            fault("hides +0", 6);
            fault("wear 0 1:", 8);
            fault("wear 0 :", 7);
            fault("wear 0 /", 7);
            fault("wear 0 1/", 8);
            fault("wear\t0 1", 4);
        });
    }

    private static void orNothing() {
        Edge.of("15", "All is told over what there is, or nothing", () -> {
            String[] firsts = {"citizen 1 2 3 4", "beggar 1 1", "wear 0 50", "hides 1", "comes 2", "post 0"};
            for (String first : firsts) {
                Edge.faulty(x -> {
                    Scenes.full(x);
                    Due.write(x, 3, first + ";x");
                }, x -> x.city(3), first.length() + 1);
                Run x = Edge.after(Scenes::full);
                Due.write(x, 3, first);
                x.due(x.city(3), 1);
            }
            Edge.faulty(x -> {
                Scenes.full(x);
                Due.write(x, 3, String.join(";", firsts) + ";");
            }, x -> x.city(3), 60);
        });
    }

    private static void faults() {
        Edge.of("16", "The FAULT: the first place at which an element can't stand as such texts go on "
                + "(the number of elements, if it ends too early)", () -> {
            String right = "citizen 1 2 33 4";
            stands(right, 1);
            for (int length = 0; length < right.length(); length++) {
                // a text that ends early; behind "3" of 33 the number stands, but another must follow
                fault(right.substring(0, length), length);
                fault(right.substring(0, length) + "x", length);
                fault(right.substring(0, length) + "x" + right.substring(length), length);
            }
            fault(right + "x", 16);
            fault(right + ";", 17);
            fault(right + ";x", 17);
        });
        Edge.of("16", "of a NUMBER that may not be the place of its first digit", () -> {
            fault("citizen 7 1 1 1", 8);
            fault("citizen 10 1 1 1", 8);
            fault("citizen 6 10 1 1", 10);
            fault("citizen 6 9 99 21", 15);
            fault("citizen 6 9 99 99", 15);
            fault("beggar 0 0", 7);
            fault("beggar 10 0", 7);
            fault("beggar 9 10", 9);
            fault("wear 12 0", 5);
            fault("wear 0 9;hides 99", 15);
            fault("post 01", 5);
        });
    }

    private static void words() {
        Edge.of("15 16", "until then the first element that is not as it is the FAULT, or the number of elements.", () -> {
            String[] words = {"citizen", "beggar", "wear", "hides", "comes", "post"};
            for (String word : words) {
                for (int length = 0; length <= word.length(); length++) {
                    fault(word.substring(0, length), length);
                    fault(word.substring(0, length) + "?", length);
                    fault(word.substring(0, length) + ";", length);
                }
                fault(word.toUpperCase(), 0);
                fault("hides 0;" + word.substring(0, 2), 10);
            }
            // two words that begin alike
            fault("cm", 1);
            fault("comi", 3);
            fault("cities", 4);
            fault("citizens", 7);
        });
    }

    private static void crowd(Run x, int citizens, int beggars) {
        for (int i = 0; i < citizens; i++) {
            x.citizen(0, 0, 0, 0);
        }
        for (int i = 0; i < beggars; i++) {
            x.beggar(1, 0);
        }
    }

    private static void room(int citizens, int beggars, String text, int place) {
        Run x = new Run();
        crowd(x, citizens, beggars);
        Due.write(x, 0, text);
        x.due(x.city(0), place < 0 ? -place : -6);
        x.due(x.fault(), place < 0 ? -1 : place);
    }

    private static void rooms() {
        Edge.of("15 16", "what there is no room for can't stand: its word, once that is whole", () -> {
            String citizen = "citizen 0 0 0 0";
            String beggar = "beggar 1 0";
            room(5, 0, citizen, -1);
            room(6, 0, citizen, 0);
            room(5, 0, citizen + ";" + citizen, 16);
            room(4, 0, citizen + ";" + citizen, -2);
            room(0, 0, times(6, citizen), -6);
            room(0, 0, times(7, citizen), 96);
            room(0, 5, beggar, -1);
            room(0, 6, beggar, 0);
            room(0, 5, beggar + ";" + beggar, 11);
            room(0, 4, beggar + ";" + beggar, -2);
            room(0, 0, times(6, beggar), -6);
            room(0, 0, times(7, beggar), 66);
            room(6, 5, "hides 5;" + beggar, -2);
            room(5, 6, "post 5;" + citizen, -2);
            room(6, 6, "hides 5;wear 5 1;comes 5;post 5", -4);
        });
        Edge.of("15 16", "Whether there is room for a word is asked when its letters stand whole", () -> {
            room(6, 0, "citizen", 0);
            room(6, 0, "citizen ", 0);
            room(6, 0, "citizenx", 0);
            room(6, 0, "citizen 9 0 0 0", 0);
            room(6, 0, "citize", 6);
            room(6, 0, "citizex", 6);
            room(6, 0, "c", 1);
            room(5, 0, "citizen", 7);
            room(5, 0, "citizenx", 7);
            room(0, 6, "beggar", 0);
            room(0, 6, "beggar 0", 0);
            room(0, 6, "begga", 5);
            room(0, 6, "beggax", 5);
            room(0, 5, "beggar", 6);
            room(1, 6, "hides 0;beggar", 8);
            room(1, 6, "hides 0;begga", 13);
        });
    }

    private static void longs() {
        Edge.of("15 29", "Elements of a ROW of longs count by their lowest 32 bits, as ints, wherever a ROW tells "
                + "something.", () -> {
            long[] same = {1L << 32, -1L << 32, Long.MIN_VALUE, 1L << 63 | 1L << 40};
            long[] other = {1L << 31, 1L << 8, 1L << 16, 1};
            Run x = told("");
            for (long more : same) {
                Due.write(x, 0, 3, "hides 1");
                x.set(0, 3, 'e' + more);
                x.due(x.city(0), 1);
                x.row(0, 3, 1);
                x.set(0, 0, 1 + more);
                x.due(x.judge(0, 1), 0);
                x.set(0, 0, more);
                x.due(x.judge(0, 1), -1);
                x.tell(1, 0, 0);
            }
            for (long more : other) {
                Due.write(x, 0, 3, "hides 1");
                x.set(0, 3, 'e' ^ more);
                x.due(x.city(0), -6);
                x.due(x.fault(), 3);
                x.row(0, 3, 1);
                x.set(0, 0, more);
                x.due(x.judge(0, 1), 0);
            }
            x.tell(0, 0, 1);
            x.tell(1, 0, 1);
            x.set(0, 0, -1L);
            x.due(x.judge(0, 1), -1);
            x.set(0, 0, 0xFFFFFFFFL);
            x.due(x.judge(0, 1), -1);
            x.set(0, 0, 0x7FFFFFFFL);
            x.due(x.judge(0, 1), 0);
        });
        Edge.of("15", "(As ints: of longs the lowest 32 bits.)", () -> {
            for (int sort = 0; sort < 4; sort++) {
                Run x = told("");
                Due.write(x, 0, sort, "hides 1");
                x.due(x.city(0), 1);
                x.set(0, 0, 'h' + 256L);
                x.due(x.city(0), sort == 0 ? 1 : -6);
                x.set(0, 0, 'h' + 65536L);
                x.due(x.city(0), sort < 2 ? 1 : -6);
                x.set(0, 0, 'h' + (1L << 32));
                x.due(x.city(0), 1);
                x.set(0, 0, -1L);
                x.due(x.city(0), -6);
                x.due(x.fault(), 0);
                x.row(0, sort, 1);
                x.set(0, 0, -1L);
                x.due(x.city(0), -6);
                x.due(x.fault(), 0);
                x.row(0, sort, 0);
                x.due(x.city(0), -6);
                x.due(x.fault(), 0);
            }
        });
    }
}
