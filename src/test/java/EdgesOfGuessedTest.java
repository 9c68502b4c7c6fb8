/** Rows that are told, chances and draws, at their edges: promises 29 to 32 and what paragraph 3 tells of them. */
public final class EdgesOfGuessedTest {
    private static final int PLACE = -1000012;
    private static final int ALL_KINDS = 62, ALL_TALKS = (1 << 21) - 1, ALL_KEPT = 1022;
    private static final Due due = new Due("EdgesOfGuessedTest");

    public static void main(String[] args) {
        fromOneToTwelveMinutes();
        upToTheEndOfTheRow();
        itemsThatNothingCanBe();
        itemsOfBytesAndShorts();
        gutterThatIsFull();
        ofAnotherOneOrItsOwn();
        allThatItMayBe();
        whatIsAskedAlone();
        whoOfAHushedOne();
        silentLeavesOutTheHushed();
        silentAsItIs();
        chanceOfNoneAndOfAll();
        chanceNow();
        chanceOfNobodyLeft();
        chanceInLowestTerms();
        chanceOverThePlank();
        nightsOfNone();
        nightsToTheEnd();
        nightsLetDown();
        nightsTheMost();
        nightsBySeeds();
        due.end();
    }

    private static NearlySaid told(String street, int lane, int... items) {
        NearlySaid x = Due.with(street);
        x.row(0, lane, items.length);
        for (int i = 0; i < items.length; i++) {
            x.set(0, i, items[i]);
        }
        return x;
    }

    private static void fromOneToTwelveMinutes() {
        due.about("what is in a gutter behind each of n MINUTES (1 to 12) from now on");
        for (int n = 1; n <= 12; n++) {
            NearlySaid x = told("g1,0;s0,3,0;", 2, 3, 5, 7, 9, 11, 13, 15, 17, 19, 21, 23, 25);
            due.is("as it is, " + n, x.silent(0, 0, 0, n), 128);
            due.is("KEPT, " + n, x.who(0, 2, 0, 0, 0, n), 1 << 3);
            x.set(0, n - 1, 99);
            due.is("the last is not so, " + n, x.silent(0, 0, 0, n), 0);
            due.is("KEPT, the last is not so, " + n, x.who(0, 2, 0, 0, 0, n), 0);
            x.minutes(1);
            due.is("from now on, " + n, x.silent(0, 0, 1, 11), n >= 2 ? 0 : 128);
        }
    }

    private static void upToTheEndOfTheRow() {
        due.about("n ITEMS of a ROW from i on");
        NearlySaid x = told("g1,0;s0,3,0;", 2, 99, 99, 3, 5);
        due.is("up to the end", x.silent(0, 0, 2, 2), 128);
        due.is("one beyond", x.silent(0, 0, 2, 3), PLACE);
        due.is("at the end", x.silent(0, 0, 4, 1), PLACE);
        due.is("who, up to the end", x.who(0, 2, 0, 0, 2, 2), 1 << 3);
        due.is("who, one beyond", x.who(0, 2, 0, 0, 2, 3), PLACE);
        due.is("who, at the end", x.who(0, 2, 0, 0, 4, 1), PLACE);
        due.is("who, below 0", x.who(0, 2, 0, 0, -1, 2), PLACE);
    }

    private static void itemsThatNothingCanBe() {
        due.about("a row that nothing fits");
        for (int item : new int[] {-1, 1000, Integer.MIN_VALUE, Integer.MAX_VALUE}) {
            NearlySaid x = told("g1,0;k5,1,0;", 2, item);
            for (int which = 0; which <= 2; which++) {
                due.is("who by " + item, x.who(0, which, 0, 0, 0, 1), 0);
            }
            due.is("silent by " + item, x.silent(0, 0, 0, 1), 0);
            due.is("status()", x.status(), 0);
        }
    }

    private static void itemsOfBytesAndShorts() {
        due.about("ITEMS are as their LANE holds them");
        // Behind 6 MINUTES 40 * 6 - 9 * 5 are there, 195: more than a byte holds.
        NearlySaid x = Due.with("g9,0;h20,1,0;");
        x.minutes(5);
        for (int lane = 0; lane <= 2; lane++) {
            x.row(lane, lane, 1);
            x.set(lane, 0, 195);
            due.is("195 in LANE " + lane, x.silent(0, lane, 0, 1), lane == 0 ? 0 : 128);
        }
        x.undo();
        x.undo();
        x.set(0, 0, 133);
        x.set(1, 0, 65536 + 133);
        due.is("133 of bytes", x.silent(0, 0, 0, 1), 0);
        due.is("133 of shorts", x.silent(0, 1, 0, 1), 128);
        x.undo();
        x.set(0, 0, 256 + 102);
        due.is("102 of bytes", x.silent(0, 0, 0, 1), 128);
    }

    private static void gutterThatIsFull() {
        due.about("a gutter holds 999 at most");
        NearlySaid x = told("g1,0;h20,1,0;", 2, 999, 999);
        x.minutes(24);
        x.minutes(1);
        due.is("TALKS that fill it", x.who(0, 1, 0, 0, 0, 1), ALL_TALKS - ((1 << 12) - 1));
        due.is("as it is", x.silent(0, 0, 0, 2), 128);
    }

    private static void ofAnotherOneOrItsOwn() {
        due.about("by the gutter of another one (or its own)");
        NearlySaid x = told("g9,0;s0,4,0;k0,1,0;", 2, 0, 4, 4);
        due.is("KEPT of 0 by 1", x.who(0, 2, 1, 0, 0, 3), 1 << 4);
        due.is("KINDS of 0 by 1", x.who(0, 0, 1, 0, 0, 3), 1 << 4);
        due.is("TALKS of 0 by 1", x.who(0, 1, 1, 0, 0, 3), ALL_TALKS);
        due.is("TALKS of 1 by 1", x.who(1, 1, 1, 0, 0, 3), 1);
        due.is("KEPT of 1 by 1", x.who(1, 2, 1, 0, 0, 3), ALL_KEPT);
        due.is("KINDS of 1 by 1", x.who(1, 0, 1, 0, 0, 3), 14);
        due.is("one minute does not tell", x.who(0, 2, 1, 0, 0, 1), ALL_KEPT);
        due.is("what is below does not matter", x.who(1, 0, 0, 0, 1, 2), ALL_KINDS);
    }

    private static void allThatItMayBe() {
        due.about("KINDS (bits 1 to 5), TALKS (0 to 20, bits), KEPT (1 to 9, bits)");
        for (int talk = 0; talk <= 20; talk++) {
            NearlySaid x = told("g1,0;k" + talk + ",1,0;", 2, talk);
            due.is("TALK " + talk, x.who(0, 1, 0, 0, 0, 1), 1 << talk);
        }
        for (int keeps = 1; keeps <= 9; keeps++) {
            NearlySaid x = told("g1,0;n0," + keeps + ",0;", 2, keeps);
            due.is("KEEPS " + keeps, x.who(0, 2, 0, 0, 0, 1), 1 << keeps);
        }
        // TALK 6, KEEPS 2: 3, 6, 4, 2, and 2 in each second MINUTE.
        int[][] rows = {{3, 3}, {6, 6}, {4, 4}, {2, 2}, {2, 0}};
        for (int kind = 1; kind <= 5; kind++) {
            NearlySaid x = told("g9,0;k6,2,0;", 2, rows[kind - 1]);
            due.is("KIND " + kind, x.who(0, 0, 0, 0, 0, 2), 1 << kind);
        }
        NearlySaid x = told("g9,0;k6,2,0;", 2, 2);
        due.is("two KINDS by one MINUTE", x.who(0, 0, 0, 0, 0, 1), 1 << 4 | 1 << 5);
    }

    private static void whatIsAskedAlone() {
        due.about("of one house by which it is so");
        // TALK 6, KEEPS 2: another KIND alone, another TALK alone, another KEEPS alone.
        NearlySaid x = told("g9,0;k6,2,0;", 2, 6);
        due.is("KINDS", x.who(0, 0, 0, 0, 0, 1), 1 << 2);
        due.is("TALKS", x.who(0, 1, 0, 0, 0, 1), 1 << 12 | 1 << 13);
        due.is("KEPT", x.who(0, 2, 0, 0, 0, 1), 1 << 1);
        due.is("KIND is as it was", x.kind(0), 1);
        due.is("TALK is as it was", x.house(0, 0), 6);
        due.is("KEEPS is as it was", x.house(0, 1), 2);
    }

    private static void whoOfAHushedOne() {
        due.about("Who is hushed SHEDS nothing, whatever it is");
        NearlySaid x = told("g9,0;k6,2,0;", 2, 0, 0, 3);
        x.hush(0, 1);
        due.is("KINDS", x.who(0, 0, 0, 0, 0, 2), ALL_KINDS);
        due.is("TALKS", x.who(0, 1, 0, 0, 0, 2), ALL_TALKS);
        due.is("KEPT", x.who(0, 2, 0, 0, 0, 2), ALL_KEPT);
        due.is("KINDS, 3", x.who(0, 0, 0, 0, 2, 1), 0);
    }

    private static void silentLeavesOutTheHushed() {
        due.about("houses (bits) that are not hushed, one of which, hushed now, makes it so");
        String seven = "g9,0;s0,1,0;s0,1,0;s0,1,0;s0,1,0;s0,1,0;s0,1,0;s0,1,0;";
        NearlySaid x = told(seven, 2, 0, 1, 2, 3);
        due.is("the last one alone, by one MINUTE", x.silent(6, 0, 0, 1), 64);
        due.is("the last one alone, by four", x.silent(6, 0, 0, 4), 64);
        x.hush(6, 1);
        due.is("it is: so as it is, by one", x.silent(6, 0, 0, 1), 128 + 63);
        due.is("it is: so as it is, by four", x.silent(6, 0, 0, 4), 128 + 7);
        x.hush(0, 1);
        due.is("the first one is, too", x.silent(6, 0, 0, 4), 128 + 6);
        for (int h = 1; h < 6; h++) {
            x.hush(h, 1);
        }
        due.is("all are, by one", x.silent(6, 0, 0, 1), 128);
        due.is("all are, by two", x.silent(6, 0, 0, 2), 0);
    }

    private static void silentAsItIs() {
        due.about("128 more, if it is so as it is");
        NearlySaid x = told("g9,0;s0,3,0;k0,1,0;s0,2,0;", 2, 3, 0, 1);
        due.is("so as it is, and by those below", x.silent(0, 0, 0, 1), 128 + 2 + 4);
        due.is("only by itself", x.silent(0, 0, 1, 1), 1);
        due.is("by none", x.silent(0, 0, 2, 1), 0);
        due.is("nobody is hushed by it", x.stand(2), 0);
    }

    private static void chance(String what, NearlySaid x, int n, int p, long above, long below) {
        due.is(what + ", above", x.hushed(n, p, 0), above);
        due.is(what + ", below", x.hushed(n, p, 1), below);
    }

    private static void chanceOfNoneAndOfAll() {
        due.about("HUSHED by p of 10 (0 to 10)");
        long[][] want = {{1, 1}, {9, 10}, {4, 5}, {7, 10}, {3, 5}, {1, 2}, {2, 5}, {3, 10}, {1, 5}, {1, 10}, {0, 1}};
        NearlySaid x = Due.with("g9,0;s0,1,0;");
        for (int p = 0; p <= 10; p++) {
            chance("p " + p, x, 40, p, want[p][0], want[p][1]);
        }
        NearlySaid dry = Due.with("g9,0;k0,1,0;");
        for (int p = 0; p <= 10; p++) {
            chance("nothing comes, p " + p, dry, 40, p, 0, 1);
        }
    }

    private static void chanceNow() {
        due.about("behind n MINUTES (0 to 40)");
        NearlySaid x = Due.with("g1,39;s0,1,0;");
        chance("nothing is there yet", x, 0, 5, 0, 1);
        chance("as much as PLANK", x, 40, 5, 0, 1);
        x.minutes(1);
        chance("more than PLANK behind 40", x, 40, 5, 1, 2);
        x.minutes(24);
        x.minutes(16);
        due.is("the pond", x.stand(0), 40);
        chance("more than PLANK now", x, 0, 5, 1, 1);
        chance("more than PLANK now, all hushed", x, 0, 10, 1, 1);
    }

    private static void chanceOfNobodyLeft() {
        due.about("each house that is not is hushed now");
        NearlySaid x = Due.with("g9,0;s0,1,0;s0,1,0;");
        chance("two", x, 40, 5, 3, 4);
        x.hush(0, 1);
        chance("one", x, 40, 5, 1, 2);
        x.hush(1, 1);
        chance("none, and nothing comes", x, 40, 5, 0, 1);
        x.hush(1, 0);
        x.minutes(1);
        x.hush(1, 1);
        chance("none, and something comes", x, 40, 5, 1, 1);
        chance("none, p of 0", x, 40, 0, 1, 1);
        chance("none, p of 10", x, 40, 10, 1, 1);
    }

    private static void chanceInLowestTerms() {
        due.about("a fraction in lowest terms (0 is 0 by 1)");
        NearlySaid x = Due.with("g9,0;s0,1,0;s0,1,0;s0,1,0;s0,1,0;s0,1,0;s0,1,0;s0,1,0;");
        chance("all but all hushed, p 1", x, 40, 1, 9999999, 10000000);
        chance("all but all hushed, p 2", x, 40, 2, 78124, 78125);
        chance("all but all hushed, p 5", x, 40, 5, 127, 128);
        chance("all but all hushed, p 9", x, 40, 9, 10000000 - 4782969, 10000000);
        chance("all hushed", x, 40, 10, 0, 1);
        chance("nobody", x, 40, 0, 1, 1);
    }

    private static void chanceOverThePlank() {
        due.about("how likely more than PLANK is in the pond");
        // Behind 3: 2 by the last one, 1 by the first one.
        for (int plank = 0; plank <= 3; plank++) {
            NearlySaid x = Due.with("g9," + plank + ";s0,1,0;s0,1,0;");
            long[][] want = {{91, 100}, {7, 10}, {49, 100}, {0, 1}};
            chance("PLANK " + plank, x, 3, 3, want[plank][0], want[plank][1]);
        }
    }

    private static void nightsOfNone() {
        due.about("NIGHTS of n MINUTES (0 to 60): the most (1; 0: of none)");
        NearlySaid x = Due.with("g9,0;s0,5,0;");
        x.minutes(5);
        due.is("what is in the pond", x.drawn(0, 1, 0), 20);
        due.is("the most of none", x.drawn(0, 1, 1), 0);
        due.is("what is in the pond behind 1", x.drawn(1, 1, 0), 25);
        due.is("the most behind 1", x.drawn(1, 1, 1), 25);
    }

    /** The same by hand: what each draw does, on an object of its own. */
    private static long[] played(String street, int n, int seed) {
        NearlySaid x = Due.with(street);
        int houses = x.count(1);
        long draw = seed;
        long most = 0;
        for (int m = 0; m < n; m++) {
            draw = draw * 16807 % 2147483647L;
            x.talk((int) (draw % houses), (int) (draw % 21));
            if (draw % 9 == 0) {
                x.letDown(5);
            }
            most = Math.max(most, x.minutes(1));
        }
        return new long[] {x.stand(0), most};
    }

    private static void nightsToTheEnd() {
        due.about("ahead of each X becomes the rest of (X times 16807) by 2147483647");
        String[] streets = {"g2,3;m4,3,0;k8,2,2;s0,1,1;", "g9,9;k1,1,0;", "g1,0;h1,2,3;n1,2,3;m1,2,3;k1,2,3;s1,2,3;k9,9,9;h3,3,3;"};
        for (String street : streets) {
            for (int seed : new int[] {1, 2, 9, 20, 21, 22, 63, 127773, 999998, 999999}) {
                for (int n = 0; n <= 60; n += 5) {
                    NearlySaid x = Due.with(street);
                    long[] want = played(street, n, seed);
                    due.is("drawn(" + n + ", " + seed + ", 0)", x.drawn(n, seed, 0), want[0]);
                    due.is("drawn(" + n + ", " + seed + ", 1)", x.drawn(n, seed, 1), want[1]);
                }
            }
        }
    }

    private static void nightsLetDown() {
        due.about("if X by 9 leaves 0, the pond is let down by 5");
        // By seed 9 the first draw is 151263, a multiple of 9, and TALK becomes 0.
        for (int pond = 0; pond <= 7; pond++) {
            NearlySaid x = Due.with("g1,0;k1,1,0;");
            x.minutes(pond + 1);
            due.is("the pond", x.stand(0), pond);
            due.is("drawn(1, 9, 0)", x.drawn(1, 9, 0), Math.max(0, pond - 5) + 1);
            due.is("drawn(1, 1, 0), not let down", x.drawn(1, 1, 0), pond + 1);
        }
    }

    private static void nightsTheMost() {
        due.about("the most that was, behind one of these");
        // By seed 9 the pond is let down first: what was ahead of it is no more.
        NearlySaid x = Due.with("g1,0;k1,1,0;");
        x.minutes(11);
        due.is("now", x.stand(0), 10);
        due.is("then", x.drawn(1, 9, 0), 6);
        due.is("the most", x.drawn(1, 9, 1), 6);
        // A draw that lets down more than comes: the most is ahead of the last.
        int seed = seedThatLetsDownLast();
        x = Due.with("g1,0;s0,1,0;");
        x.minutes(11);
        due.is("behind 1", x.drawn(1, seed, 0), 11);
        due.is("behind 2", x.drawn(2, seed, 0), 7);
        due.is("the most of 2", x.drawn(2, seed, 1), 11);
    }

    private static int seedThatLetsDownLast() {
        for (int seed = 1; seed <= 999999; seed++) {
            long first = seed * 16807L % 2147483647L;
            long second = first * 16807L % 2147483647L;
            if (first % 9 != 0 && second % 9 == 0) {
                return seed;
            }
        }
        throw new IllegalStateException("there is no such seed");
    }

    private static void nightsBySeeds() {
        due.about("by a SEED (1 to 999999)");
        // By 999999 the first draw is 16806983193 less 7 times 2147483647, 1774597664: TALK becomes 14.
        NearlySaid x = Due.with("g9,0;k0,1,0;");
        due.is("by 1, TALK becomes 7 ahead of the MINUTE", x.drawn(2, 1, 0), 7);
        due.is("by 999999, more than STEP", x.drawn(2, 999999, 0), 9);
        x = Due.with("g9,0;k0,3,0;");
        due.is("by 999999, 14 by 3", x.drawn(2, 999999, 0), 4);
    }
}
