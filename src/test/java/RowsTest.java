/** Promises 2 to 5 (rows) and, for rows, 40 (status). */
public final class RowsTest {
    private static final int BAD = NearlySaid.BAD;
    private static final int NULL = -1000011, PLACE = -1000012, SIZE = -1000014, STORE = -1000015;
    private static final Due due = new Due("RowsTest");

    public static void main(String[] args) {
        making();
        setting();
        lanes();
        copying();
        copyingWithinOneRow();
        findingsOfCopy();
        dropping();
        status();
        due.end();
    }

    private static void making() {
        NearlySaid x = new NearlySaid();
        due.is("row(0, 0, 0)", x.row(0, 0, 0), 0);
        due.is("row(7, 2, 40)", x.row(7, 2, 40), 40);
        due.is("row(3, 1, 5)", x.row(3, 1, 5), 5);
        due.is("count(0)", x.count(0), 3);
        due.is("row(-1, 0, 1)", x.row(-1, 0, 1), BAD);
        due.is("row(8, 0, 1)", x.row(8, 0, 1), BAD);
        due.is("row(1, -1, 1)", x.row(1, -1, 1), BAD);
        due.is("row(1, 3, 1)", x.row(1, 3, 1), BAD);
        due.is("row(1, 0, 41)", x.row(1, 0, 41), BAD);
        due.is("row(1, 0, MAX)", x.row(1, 0, Integer.MAX_VALUE), BAD);
        due.is("row(1, 0, -1)", x.row(1, 0, -1), SIZE);
        due.is("row(1, 0, MIN)", x.row(1, 0, Integer.MIN_VALUE), SIZE);
        due.is("row(8, 0, -1)", x.row(8, 0, -1), BAD);
        due.is("row(1, 3, -1)", x.row(1, 3, -1), BAD);
        due.is("count(0) after refusals", x.count(0), 3);
        x.set(3, 4, 77);
        due.is("row(3, 1, -1)", x.row(3, 1, -1), SIZE);
        due.is("a found row() leaves the row", x.copy(3, 4, 3, 0, 1), 1);
        due.is("row(3, 0, 2) in its place", x.row(3, 0, 2), 2);
        due.is("the place beyond", x.set(3, 2, 1), PLACE);
        due.is("count(0) in its place", x.count(0), 3);
    }

    private static void setting() {
        NearlySaid x = new NearlySaid();
        due.is("set of a missing one", x.set(2, 0, 1), NULL);
        due.is("set of a missing one, bad place", x.set(2, -1, 1), NULL);
        due.is("set(-1, 0, 0)", x.set(-1, 0, 0), BAD);
        due.is("set(8, 0, 0)", x.set(8, 0, 0), BAD);
        x.row(2, 2, 3);
        due.is("set(2, -1, 1)", x.set(2, -1, 1), PLACE);
        due.is("set(2, 3, 1)", x.set(2, 3, 1), PLACE);
        due.is("set(2, MAX, 1)", x.set(2, Integer.MAX_VALUE, 1), PLACE);
        due.is("set(2, MIN, 1)", x.set(2, Integer.MIN_VALUE, 1), PLACE);
        due.is("set(2, 0, 5)", x.set(2, 0, 5), 5);
        due.is("set(2, 2, -5)", x.set(2, 2, -5), -5);
        x.row(4, 0, 0);
        due.is("set of a row without items", x.set(4, 0, 1), PLACE);
    }

    private static void lanes() {
        NearlySaid x = new NearlySaid();
        x.row(0, 0, 1);
        x.row(1, 1, 1);
        x.row(2, 2, 1);
        int[] values = {0, 127, 128, 255, 256, -1, -128, -129, 32767, 32768, 65535, 65536, -32769,
            Integer.MAX_VALUE, Integer.MIN_VALUE};
        for (int v : values) {
            due.is("a byte of " + v, x.set(0, 0, v), (byte) v);
            due.is("a short of " + v, x.set(1, 0, v), (short) v);
            due.is("an int of " + v, x.set(2, 0, v), v);
        }
    }

    /** No call tells an item that was copied, so it is looked at by silent(). */
    private static boolean tells(NearlySaid x, int row, int i, int... items) {
        for (int k = 0; k < items.length; k++) {
            if (!itemIs(x, row, i + k, items[k])) {
                return false;
            }
        }
        return true;
    }

    /** An item is v (0 to 9) just if a street whose only house sheds v has it in its gutter behind a minute. */
    private static boolean itemIs(NearlySaid x, int row, int i, int v) {
        Due.read(x, v == 0 ? "g1,0;k0,1,0;" : "g1,0;s0," + v + ",0;");
        return (x.silent(0, row, i, 1) & 128) != 0;
    }

    private static void copying() {
        NearlySaid x = new NearlySaid();
        x.row(0, 2, 4);
        x.row(1, 2, 6);
        for (int i = 0; i < 4; i++) {
            x.set(0, i, i + 1);
        }
        due.is("copy(0, 1, 1, 2, 3)", x.copy(0, 1, 1, 2, 3), 3);
        due.is("what is copied", tells(x, 1, 0, 0, 0, 2, 3, 4, 0) ? 1 : 0, 1);
        due.is("where it comes from", tells(x, 0, 0, 1, 2, 3, 4) ? 1 : 0, 1);
        due.is("copy of none at the end", x.copy(0, 4, 1, 6, 0), 0);
        due.is("copy of all", x.copy(0, 0, 1, 0, 4), 4);
        due.is("all that is copied", tells(x, 1, 0, 1, 2, 3, 4, 4, 0) ? 1 : 0, 1);
        x.row(0, 2, 4);
        due.is("items are 0 at first", tells(x, 0, 0, 0, 0, 0, 0) ? 1 : 0, 1);
    }

    private static void copyingWithinOneRow() {
        NearlySaid x = new NearlySaid();
        x.row(0, 0, 5);
        for (int i = 0; i < 5; i++) {
            x.set(0, i, i + 1);
        }
        due.is("copy up", x.copy(0, 0, 0, 1, 4), 4);
        due.is("as they were ahead", tells(x, 0, 0, 1, 1, 2, 3, 4) ? 1 : 0, 1);
        due.is("copy down", x.copy(0, 2, 0, 0, 3), 3);
        due.is("as they were ahead, down", tells(x, 0, 0, 2, 3, 4, 3, 4) ? 1 : 0, 1);
    }

    private static void findingsOfCopy() {
        NearlySaid x = new NearlySaid();
        x.row(0, 0, 4);
        x.row(1, 1, 4);
        x.row(2, 0, 2);
        due.is("copy(-1, ..)", x.copy(-1, 0, 0, 0, 0), BAD);
        due.is("copy(.., 8, ..)", x.copy(0, 0, 8, 0, 0), BAD);
        due.is("copy from a missing one", x.copy(3, 0, 0, 0, 0), NULL);
        due.is("copy to a missing one", x.copy(0, 0, 3, 0, 0), NULL);
        due.is("NULL ahead of PLACE", x.copy(3, -1, 0, 0, 0), NULL);
        due.is("two lanes", x.copy(0, 0, 1, 0, 1), STORE);
        due.is("two lanes, none", x.copy(0, 0, 1, 0, 0), STORE);
        due.is("STORE ahead of PLACE", x.copy(0, -1, 1, 0, 1), STORE);
        due.is("i below 0", x.copy(0, -1, 2, 0, 1), PLACE);
        due.is("j below 0", x.copy(0, 0, 2, -1, 1), PLACE);
        due.is("n below 0", x.copy(0, 0, 2, 0, -1), PLACE);
        due.is("beyond the end of a", x.copy(2, 1, 0, 0, 2), PLACE);
        due.is("beyond the end of b", x.copy(0, 0, 2, 1, 2), PLACE);
        due.is("i beyond, none", x.copy(0, 5, 2, 0, 0), PLACE);
        due.is("a sum that wraps", x.copy(0, 1, 2, 1, Integer.MAX_VALUE), PLACE);
        due.is("places that wrap", x.copy(0, Integer.MAX_VALUE, 2, Integer.MAX_VALUE, 1), PLACE);
        due.is("the least numbers", x.copy(0, Integer.MIN_VALUE, 2, 0, Integer.MIN_VALUE), PLACE);
    }

    private static void dropping() {
        NearlySaid x = new NearlySaid();
        x.row(5, 1, 9);
        due.is("drop(5)", x.drop(5), 9);
        due.is("count(0)", x.count(0), 0);
        due.is("drop(5) again", x.drop(5), NULL);
        due.is("set behind drop", x.set(5, 0, 1), NULL);
        due.is("drop(-1)", x.drop(-1), BAD);
        due.is("drop(8)", x.drop(8), BAD);
        x.row(5, 1, 0);
        due.is("drop of one without items", x.drop(5), 0);
    }

    private static void status() {
        NearlySaid x = new NearlySaid();
        due.is("status() at first", x.status(), 0);
        x.drop(0);
        due.is("status() of NULL", x.status(), 1);
        x.row(9, 0, 0);
        due.is("status() behind BAD", x.status(), 1);
        x.feed(300);
        x.count(0);
        due.is("status() behind calls without a row", x.status(), 1);
        x.row(0, 0, 2);
        due.is("status() of none", x.status(), 0);
        x.set(0, 2, 0);
        due.is("status() of PLACE", x.status(), 2);
        x.row(1, 0, -1);
        due.is("status() of SIZE", x.status(), 4);
        x.row(1, 1, 2);
        x.copy(0, 0, 1, 0, 1);
        due.is("status() of STORE", x.status(), 5);
        x.set(0, 0, 1);
        due.is("status() of set", x.status(), 0);
        x.drop(2);
        x.copy(0, 0, 0, 1, 1);
        due.is("status() of copy", x.status(), 0);
        x.drop(2);
        x.drop(1);
        due.is("status() of drop", x.status(), 0);
    }
}
