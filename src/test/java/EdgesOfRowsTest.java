/** Rows at their edges: each sentence of "1 ROWS" and of promises 2 to 5 that names one, with a test of its own. */
public final class EdgesOfRowsTest {
    private static final int NULL = -1000011, PLACE = -1000012;
    private static final Due due = new Due("EdgesOfRowsTest");

    public static void main(String[] args) {
        missingAtFirst();
        noItems();
        allItems();
        itemsAreZeroAtFirst();
        inPlaceOfWhatIsThere();
        lowestBits();
        lowestBitsAreKept();
        copiesUpToTheEnds();
        copiesAsTheyWereAhead();
        missingFromNowOn();
        numbersOfFindings();
        due.end();
    }

    /** No call tells an item: it is v (0 to 9) just if a house that sheds v has it in its gutter behind a MINUTE. */
    private static int item(NearlySaid x, int row, int i) {
        for (int v = 0; v <= 9; v++) {
            Due.read(x, v == 0 ? "g1,0;k0,1,0;" : "g1,0;s0," + v + ",0;");
            if ((x.silent(0, row, i, 1) & 128) != 0) {
                return v;
            }
        }
        return -1;
    }

    private static void missingAtFirst() {
        due.about("ROWS 0 .. 7 are missing (at first)");
        NearlySaid x = new NearlySaid();
        for (int r = 0; r <= 7; r++) {
            due.is("drop(" + r + ")", x.drop(r), NULL);
            due.is("set(" + r + ", 0, 0)", x.set(r, 0, 0), NULL);
        }
        due.is("count(0)", x.count(0), 0);
        for (int r = 0; r <= 7; r++) {
            x.row(r, r % 3, r);
            due.is("count(0)", x.count(0), r + 1);
        }
    }

    private static void noItems() {
        due.about("0 ITEMS");
        for (int lane = 0; lane <= 2; lane++) {
            NearlySaid x = Due.with("g1,0;k0,1,0;");
            due.is("row", x.row(3, lane, 0), 0);
            due.is("it is there", x.count(0), 1);
            due.is("set", x.set(3, 0, 0), PLACE);
            due.is("copy of none", x.copy(3, 0, 3, 0, 0), 0);
            due.is("copy of 1", x.copy(3, 0, 3, 0, 1), PLACE);
            due.is("silent", x.silent(0, 3, 0, 1), PLACE);
            due.is("drop", x.drop(3), 0);
            due.is("it is missing", x.drop(3), NULL);
        }
    }

    private static void allItems() {
        due.about("40 ITEMS");
        for (int lane = 0; lane <= 2; lane++) {
            NearlySaid x = Due.with("g1,0;k0,1,0;");
            due.is("row", x.row(7, lane, 40), 40);
            for (int i = 0; i < 40; i++) {
                due.is("set", x.set(7, i, i), i);
            }
            due.is("set at 40", x.set(7, 40, 0), PLACE);
            due.is("copy of all", x.copy(7, 0, 7, 0, 40), 40);
            due.is("copy of 41", x.copy(7, 0, 7, 0, 41), PLACE);
            due.is("the last 12", x.silent(0, 7, 28, 12), 0);
            due.is("12 from 29 on", x.silent(0, 7, 29, 12), PLACE);
            due.is("drop", x.drop(7), 40);
        }
    }

    private static void itemsAreZeroAtFirst() {
        due.about("ITEMS, 0 at first");
        NearlySaid x = Due.with("g1,0;k0,1,0;");
        x.row(0, 2, 40);
        for (int i = 0; i < 40; i++) {
            due.is("a new one", x.silent(0, 0, i, 1), 128 + 1);
            x.set(0, i, 5);
        }
        x.row(0, 2, 40);
        for (int i = 0; i < 40; i++) {
            due.is("in place of another", x.silent(0, 0, i, 1), 128 + 1);
            x.set(0, i, 5);
        }
        x.row(0, 2, 2);
        x.row(0, 2, 40);
        due.is("in place of a short one", x.silent(0, 0, 28, 12), 128 + 1);
        x.set(0, 39, 5);
        x.drop(0);
        x.row(0, 2, 40);
        due.is("behind drop", x.silent(0, 0, 28, 12), 128 + 1);
    }

    private static void inPlaceOfWhatIsThere() {
        due.about("in place of what is there");
        NearlySaid x = new NearlySaid();
        x.row(0, 2, 9);
        x.row(1, 2, 9);
        due.is("a shorter one", x.row(0, 0, 3), 3);
        due.is("its end", x.set(0, 3, 1), PLACE);
        due.is("its LANE", x.set(0, 2, 256), 0);
        due.is("the LANES are two", x.copy(0, 0, 1, 0, 1), -1000015);
        due.is("a longer one", x.row(0, 2, 10), 10);
        due.is("its last", x.set(0, 9, 70000), 70000);
        due.is("the LANES are one", x.copy(0, 0, 1, 0, 1), 1);
        due.is("how many", x.count(0), 2);
    }

    private static void lowestBits() {
        due.about("its lowest bits, as many as the LANE has");
        NearlySaid x = new NearlySaid();
        x.row(0, 0, 1);
        x.row(1, 1, 1);
        x.row(2, 2, 1);
        int[][] bytes = {{127, 127}, {128, -128}, {129, -127}, {255, -1}, {256, 0}, {257, 1}, {-1, -1}, {-128, -128},
            {-129, 127}, {-256, 0}, {Integer.MAX_VALUE, -1}, {Integer.MIN_VALUE, 0}, {0x12345678, 0x78}};
        for (int[] b : bytes) {
            due.is("a byte by " + b[0], x.set(0, 0, b[0]), b[1]);
        }
        int[][] shorts = {{255, 255}, {32767, 32767}, {32768, -32768}, {65535, -1}, {65536, 0}, {65537, 1}, {-1, -1},
            {-32768, -32768}, {-32769, 32767}, {Integer.MAX_VALUE, -1}, {Integer.MIN_VALUE, 0}, {0x12345678, 0x5678}};
        for (int[] s : shorts) {
            due.is("a short by " + s[0], x.set(1, 0, s[0]), s[1]);
        }
        for (int i : new int[] {0, -1, 65536, Integer.MAX_VALUE, Integer.MIN_VALUE}) {
            due.is("an int by " + i, x.set(2, 0, i), i);
        }
    }

    private static void lowestBitsAreKept() {
        due.about("ITEM i becomes v, its lowest bits");
        NearlySaid x = new NearlySaid();
        x.row(0, 0, 3);
        x.set(0, 1, 256 + 7);
        due.is("a byte", item(x, 0, 1), 7);
        due.is("the one ahead", item(x, 0, 0), 0);
        due.is("the one behind", item(x, 0, 2), 0);
        x.row(0, 1, 2);
        x.set(0, 1, 65536 + 3);
        due.is("a short", item(x, 0, 1), 3);
        x.row(0, 2, 2);
        x.set(0, 1, 256 + 3);
        due.is("an int", item(x, 0, 1), -1);
    }

    private static void copiesUpToTheEnds() {
        due.about("n ITEMS of a from i on come to b from j on: n");
        NearlySaid x = new NearlySaid();
        x.row(0, 2, 3);
        x.row(1, 2, 4);
        for (int i = 0; i < 3; i++) {
            x.set(0, i, i + 1);
        }
        due.is("none at both ends", x.copy(0, 3, 1, 4, 0), 0);
        due.is("the last one to the last one", x.copy(0, 2, 1, 3, 1), 1);
        due.is("it came", item(x, 1, 3), 3);
        due.is("the one ahead of it", item(x, 1, 2), 0);
        due.is("all to the end", x.copy(0, 0, 1, 1, 3), 3);
        int[] want = {0, 1, 2, 3};
        for (int i = 0; i < 4; i++) {
            due.is("what came at " + i, item(x, 1, i), want[i]);
        }
        due.is("one too many for a", x.copy(0, 0, 1, 0, 4), PLACE);
        due.is("one too many for b", x.copy(0, 0, 1, 2, 3), PLACE);
    }

    private static void copiesAsTheyWereAhead() {
        due.about("as they were ahead");
        int[][] up = {{0, 1, 3}, {0, 2, 2}, {1, 2, 2}, {0, 0, 4}};
        int[][] want = {{1, 1, 2, 3}, {1, 2, 1, 2}, {1, 2, 2, 3}, {1, 2, 3, 4}};
        for (int c = 0; c < up.length; c++) {
            NearlySaid x = four();
            x.copy(5, up[c][0], 5, up[c][1], up[c][2]);
            due.is("up " + c, items(x), number(want[c]));
        }
        int[][] down = {{1, 0, 3}, {2, 0, 2}, {2, 1, 2}};
        int[][] then = {{2, 3, 4, 4}, {3, 4, 3, 4}, {1, 3, 4, 4}};
        for (int c = 0; c < down.length; c++) {
            NearlySaid x = four();
            x.copy(5, down[c][0], 5, down[c][1], down[c][2]);
            due.is("down " + c, items(x), number(then[c]));
        }
    }

    private static NearlySaid four() {
        NearlySaid x = new NearlySaid();
        x.row(5, 1, 4);
        for (int i = 0; i < 4; i++) {
            x.set(5, i, i + 1);
        }
        return x;
    }

    private static int items(NearlySaid x) {
        int[] all = new int[4];
        for (int i = 0; i < 4; i++) {
            all[i] = item(x, 5, i);
        }
        return number(all);
    }

    private static int number(int[] figures) {
        int number = 0;
        for (int f : figures) {
            number = number * 10 + f;
        }
        return number;
    }

    private static void missingFromNowOn() {
        due.about("A ROW is missing from now on: how many ITEMS it had");
        NearlySaid x = new NearlySaid();
        x.row(0, 2, 6);
        x.row(7, 2, 7);
        due.is("drop(7)", x.drop(7), 7);
        due.is("drop(7) again", x.drop(7), NULL);
        due.is("set", x.set(7, 0, 0), NULL);
        due.is("copy to it", x.copy(0, 0, 7, 0, 0), NULL);
        due.is("another one stays", x.drop(0), 6);
        due.is("count(0)", x.count(0), 0);
        due.is("a new one", x.row(7, 0, 1), 1);
        due.is("it is there", x.set(7, 0, 3), 3);
    }

    private static void numbersOfFindings() {
        due.about("status(): the number of its FINDING");
        NearlySaid x = Due.with("g1,0;k0,1,0;");
        x.row(0, 0, 1);
        x.row(1, 1, 1);
        due.is("NULL", x.set(2, 0, 0), -1000011);
        due.is("1", x.status(), 1);
        due.is("PLACE", x.set(0, 1, 0), -1000012);
        due.is("2", x.status(), 2);
        due.is("KIND", x.as(0, 5), -1000013);
        due.is("3", x.status(), 3);
        due.is("SIZE", x.row(0, 0, -1), -1000014);
        due.is("4", x.status(), 4);
        due.is("STORE", x.copy(0, 0, 1, 0, 0), -1000015);
        due.is("5", x.status(), 5);
        x.hush(0, 0);
        x.feed(256);
        x.row(0, 3, 0);
        x.as(1, 0);
        x.minutes(1);
        due.is("5 behind calls that do not matter", x.status(), 5);
        x.as(0, 1);
        due.is("0, it had none", x.status(), 0);
        x.set(2, 0, 0);
        x.silent(0, 0, 0, 1);
        due.is("0 by silent", x.status(), 0);
        x.set(2, 0, 0);
        x.who(0, 0, 0, 0, 0, 1);
        due.is("0 by who", x.status(), 0);
        x.silent(0, 2, 0, 1);
        due.is("1 by silent", x.status(), 1);
        x.who(0, 0, 0, 0, 1, 1);
        due.is("2 by who", x.status(), 2);
    }
}
