/** Cities that many tests begin with. */
final class Scenes {
    private Scenes() {
    }

    static void empty(Run x) {
        x.due(x.status(0), 0);
    }

    /**
     * Something of everything. Shelf 0: five ints. 1: three bytes. 2: citizen 1. 3: nothing. 4: longs, a text with a
     * FAULT at 6. 5: the longest row, shorts. 6: citizen 3, whom the image hasn't. 7: a text of two items.
     * Citizens 0 to 3, of whom 2 hides; beggars 0 to 3, of whom 2 has a post; one refusal of each sort.
     */
    static void full(Run x) {
        x.citizen(5, 3, 0, 12);
        x.citizen(3, 4, 20, 15);
        x.citizen(4, 2, 9, 9);
        x.beggar(4, 4);
        x.beggar(2, 1);
        x.beggar(9, 2);
        x.seed(77);
        x.mornings(3);
        x.image();
        x.citizen(0, 1, 8, 20);
        x.beggar(1, 3);
        x.post(2, true);
        x.winters(2);
        for (int c = 0; c < 4; c++) {
            x.tell(c, 0, c == 2 ? 1 : 0);
        }
        x.row(0, 2, 5);
        for (int i = 0; i < 5; i++) {
            x.set(0, i, 7L * i - 9);
        }
        x.row(1, 0, 3);
        x.set(1, 2, -5L);
        x.show(2, 1);
        Due.write(x, 4, 3, "hides 9");
        x.city(4);
        x.row(5, 1, 160);
        x.set(5, 159, 300L);
        x.show(6, 3);
        Due.write(x, 7, 0, "hides 0;comes 0");
        x.act(1, 2, 5);
        x.picks(9);
        x.set(2, 0, 1L);
        x.set(3, 0, 1L);
        x.row(0, 0, -1);
        x.citizenOf(9, 0);
        x.row(0, 0, 161);
    }

    /** No room for one more. */
    static void crowded(Run x) {
        for (int i = 0; i < 6; i++) {
            x.citizen(i, i + 1, 10 * i, 20 - i);
            x.beggar(i + 1, i % 5);
        }
        x.image();
        x.mornings(2);
    }
}
