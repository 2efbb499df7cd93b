/** Promises 1 to 8: a new object, row, set, copy, element, show, holds, says. */
public final class ShelvesTest {
    public static void main(String[] args) {
        newObject();
        row();
        set();
        copy();
        copyRefused();
        show();
        says();
        Due.end();
    }

    private static void newObject() {
        Run x = new Run();
        for (int what = 0; what <= 6; what++) {
            Due.is("new status(" + what + ")", x.status(what), 0);
        }
        Due.is("new status(7)", x.status(7), 1);
        Due.is("new status(8)", x.status(8), 0);
        for (int s = 0; s < 8; s++) {
            Due.is("new holds", x.holds(s), -1);
        }
        Due.is("new kept()", x.kept(), 0);
        Due.is("new parting(-1)", x.parting(-1), 0);
        Due.is("new rests(-1)", x.rests(-1), -1);
        Due.is("new hide()", x.hide(), -1);
        Due.is("new best()", x.best(), -1);
        Due.is("new fault()", x.fault(), -1);
    }

    private static void row() {
        Run x = new Run();
        Due.is("row(-1, 9, -1)", x.row(-1, 9, -1), -1);
        Due.is("row(8, 0, 0)", x.row(8, 0, 0), -1);
        Due.is("row(0, 9, -1)", x.row(0, 9, -1), -4);
        Due.is("row(0, 4, 161)", x.row(0, 4, 161), -6);
        Due.is("row(0, -1, 1)", x.row(0, -1, 1), -6);
        Due.is("row(0, 3, 161)", x.row(0, 3, 161), -7);
        Due.is("row(0, 3, max)", x.row(0, 3, Integer.MAX_VALUE), -7);
        Due.is("holds(0)", x.holds(0), -1);
        Due.is("row(0, 3, 160)", x.row(0, 3, 160), 1);
        Due.is("holds(0)", x.holds(0), 103);
        Due.is("set(0, 159, 7)", x.set(0, 159, 7L), 1);
        Due.is("element(0, 159)", x.element(0, 159), 7);
        Due.is("row(0, 2, 160)", x.row(0, 2, 160), 1);
        Due.is("a new row is of 0", x.element(0, 159), 0);
        Due.is("holds(0)", x.holds(0), 102);
        Due.is("row(0, 0, 0)", x.row(0, 0, 0), 1);
        Due.is("holds(0)", x.holds(0), 100);
        Due.is("set(0, 0, 1) of none", x.set(0, 0, 1L), -5);
        Due.rows("refusals", refusals(x), 2, 0, 0, 1, 1, 2, 2);
    }

    private static void set() {
        Run x = new Run();
        x.citizen(0, 0, 0, 0);
        Due.is("set(8, ..)", x.set(8, 0, 1L), -1);
        Due.is("set of nothing", x.set(0, -1, 1L), -3);
        x.show(0, 0);
        Due.is("set of a citizen", x.set(0, -1, 1L), -2);
        long v = 0x123456789ABCDEF0L;
        long[] want = {(byte) v, (short) v, (int) v, v};
        for (int sort = 0; sort < 4; sort++) {
            x.row(sort, sort, 2);
            Due.is("set", x.set(sort, 1, v), 1);
            Due.is("element of sort " + sort, x.element(sort, 1), want[sort]);
            Due.is("set beyond", x.set(sort, 2, v), -5);
            Due.is("set below", x.set(sort, -1, v), -5);
            x.set(sort, 0, -1L);
            Due.is("element -1", x.element(sort, 0), -1);
        }
        x.set(0, 0, 200L);
        Due.is("a byte wraps", x.element(0, 0), -56);
        Due.is("element(8, 0)", x.element(8, 0), 0);
        Due.is("element(-1, 0)", x.element(-1, 0), 0);
        Due.is("element(0, 2)", x.element(0, 2), 0);
        Due.is("element(0, -1)", x.element(0, -1), 0);
        Due.is("element of nothing", x.element(7, 0), 0);
        x.show(6, 0);
        Due.is("element of a citizen", x.element(6, 0), 0);
        Due.rows("refusals", refusals(x), 1, 1, 1, 0, 8, 0, 0);
    }

    private static void copy() {
        Run x = new Run();
        x.row(0, 2, 6);
        for (int i = 0; i < 6; i++) {
            x.set(0, i, i + 1);
        }
        Due.is("copy onto itself, up", x.copy(0, 0, 0, 2, 4), 1);
        Due.rows("elements", elements(x, 0, 6), 1, 2, 1, 2, 3, 4);
        Due.is("copy onto itself, down", x.copy(0, 0, 2, 1, 4), 1);
        Due.rows("elements", elements(x, 0, 6), 1, 1, 2, 3, 4, 4);
        x.row(1, 2, 3);
        Due.is("copy(0, 1, 3, 0, 3)", x.copy(0, 1, 3, 0, 3), 1);
        Due.rows("elements", elements(x, 1, 3), 3, 4, 4);
        Due.is("copy of none at the end", x.copy(0, 1, 6, 3, 0), 1);
        Due.is("copy of none behind the end", x.copy(0, 1, 7, 3, 0), -5);
        Due.is("copy of none behind the other's end", x.copy(0, 1, 6, 4, 0), -5);
        Due.is("i below 0", x.copy(0, 1, -1, 0, 1), -5);
        Due.is("j below 0", x.copy(0, 1, 0, -1, 1), -5);
        Due.is("an end too far", x.copy(0, 1, 0, 0, 4), -5);
        Due.is("wrapping end", x.copy(0, 1, Integer.MAX_VALUE, 0, Integer.MAX_VALUE), -5);
        Due.is("wrapping end of the other", x.copy(0, 1, 0, Integer.MAX_VALUE, 1), -5);
        Due.rows("elements", elements(x, 1, 3), 3, 4, 4);
    }

    private static void copyRefused() {
        Run x = new Run();
        x.citizen(0, 0, 0, 0);
        x.show(0, 0);
        x.row(1, 0, 2);
        x.row(2, 1, 2);
        Due.is("no shelf ahead of a citizen", x.copy(0, 8, 0, 0, -1), -1);
        Due.is("no shelf", x.copy(-1, 0, 0, 0, -1), -1);
        Due.is("a citizen ahead of nothing", x.copy(0, 5, 0, 0, -1), -2);
        Due.is("a citizen behind nothing", x.copy(5, 0, 0, 0, -1), -2);
        Due.is("two sorts", x.copy(1, 2, 0, 0, -1), -2);
        Due.is("nothing from", x.copy(5, 1, 0, 0, -1), -3);
        Due.is("nothing to", x.copy(1, 5, 0, 0, -1), -3);
        Due.is("n below 0 ahead of beyond", x.copy(1, 1, -1, 0, -1), -4);
        Due.rows("refusals", refusals(x), 2, 3, 2, 1, 0, 0, 0);
    }

    private static void show() {
        Run x = new Run();
        Due.is("show(0, 0) of none", x.show(0, 0), -1);
        Due.is("show(8, -1)", x.show(8, -1), -1);
        Due.is("show(0, -2)", x.show(0, -2), -1);
        Due.is("show(0, -1)", x.show(0, -1), 0);
        x.citizen(0, 0, 0, 0);
        x.citizen(1, 0, 0, 0);
        Due.is("show(0, 1)", x.show(0, 1), 1);
        Due.is("holds(0)", x.holds(0), 1);
        Due.is("show(0, 2)", x.show(0, 2), -1);
        Due.is("holds(0) still", x.holds(0), 1);
        x.row(0, 1, 3);
        Due.is("holds(0) a row", x.holds(0), 101);
        Due.is("show(0, 0)", x.show(0, 0), 1);
        Due.is("holds(0)", x.holds(0), 0);
        Due.is("show(0, -1)", x.show(0, -1), 0);
        Due.is("holds(0) nothing", x.holds(0), -1);
        Due.is("holds(-1)", x.holds(-1), -1);
        Due.is("holds(8)", x.holds(8), -1);
        Due.is("holds counts no refusal", x.status(11), 4);
    }

    private static void says() {
        Run x = new Run();
        int[] above = {-1, 0, 0, 2, 0, 4, 3};
        for (int kind = 0; kind < 7; kind++) {
            Run y = new Run();
            y.citizen(kind, 7, 5, 15);
            y.tell(0, 1, 50);
            y.mornings(3);
            y.show(3, 0);
            int[] own = {y.citizenOf(0, 7), 44, 7, 7, 3, 3, 7};
            for (int asked = 0; asked < 7; asked++) {
                boolean isUnder = false;
                for (int k = kind; k >= 0; k = above[k]) {
                    isUnder |= k == asked;
                }
                Due.is("says of " + kind + " as " + asked, y.says(3, asked), isUnder ? own[asked] : -2);
            }
            Due.is("says(3, 7)", y.says(3, 7), -1);
        }
        Due.is("no shelf", x.says(8, 0), -1);
        Due.is("no kind ahead of nothing", x.says(0, -1), -1);
        Due.is("nothing", x.says(0, 0), -3);
        x.row(0, 0, 1);
        Due.is("a row", x.says(0, 0), -2);
        Due.is("no kind ahead of a row", x.says(0, 7), -1);
        Due.rows("refusals", refusals(x), 3, 1, 1, 0, 0, 0, 0);
    }

    private static long[] elements(Run x, int s, int n) {
        long[] elements = new long[n];
        for (int i = 0; i < n; i++) {
            elements[i] = x.element(s, i);
        }
        return elements;
    }

    private static long[] refusals(Run x) {
        long[] refusals = new long[7];
        for (int i = 0; i < 7; i++) {
            refusals[i] = x.status(11 + i);
        }
        return refusals;
    }
}
