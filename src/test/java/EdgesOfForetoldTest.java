/** What is foretold, at its edges: each sentence of paragraph 3 and of promises 17 to 28 that names one. */
public final class EdgesOfForetoldTest {
    private static final int BAD = NearlySaid.BAD, NONE = NearlySaid.NONE;
    private static final String SEVEN = "g9,0;s0,1,0;s0,1,0;s0,1,0;s0,1,0;s0,1,0;s0,1,0;s0,1,0;";
    private static final Due due = new Due("EdgesOfForetoldTest");

    public static void main(String[] args) {
        aheadFromNowToFar();
        overNow();
        overOnlyIfMoreThanPlank();
        overBehind200();
        fullNow();
        fullOfSeveralTheFirst();
        fullLeavesOutNoBars();
        fullAtTheLatest();
        mostNow();
        mostFirst();
        hushNone();
        hushAll();
        hushNobody();
        hushMoreThanAre();
        hushOfSeveralTheLeast();
        spareAtThePlank();
        spareOfSeveralTheLeast();
        spareNone();
        catchOfSeveralTheFirst();
        catchPutNow();
        catchOfSeven();
        fromNothing();
        fromMost();
        loudFromEndToEnd();
        loudNone();
        dryFromNoneToAll();
        lagOfEach();
        lagLeavesAllElseOut();
        due.end();
    }

    private static void pass(NearlySaid x, int minutes) {
        for (int left = minutes; left > 0; left -= Math.min(24, left)) {
            x.minutes(Math.min(24, left));
        }
    }

    private static void aheadFromNowToFar() {
        due.about("AHEAD by n MINUTES (0 to 99)");
        NearlySaid x = Due.with("g2,9;s0,5,0;k0,1,4;");
        NearlySaid later = Due.with("g2,9;s0,5,0;k0,1,4;");
        x.minutes(3);
        later.minutes(3);
        for (int n = 0; n <= 99; n++) {
            due.is("ahead(0, " + n + ")", x.ahead(0, n), later.house(0, 3));
            due.is("pond(" + n + ", 0)", x.pond(n, 0), later.stand(0));
            due.is("pond(" + n + ", 1)", x.pond(n, 1), later.stand(3));
            later.minutes(1);
        }
        due.is("ahead(0, 100)", x.ahead(0, 100), BAD);
        due.is("ahead(0, -1)", x.ahead(0, -1), BAD);
        x = Due.with("g9,9;s0,1,0;");
        pass(x, 999);
        due.is("behind MINUTE 999", x.pond(99, 0), 998 + 99);
    }

    private static void overNow() {
        due.about("OVER: behind how many MINUTES (0: now)");
        NearlySaid x = Due.with("g1,4;s0,1,0;");
        for (int minute = 0; minute <= 8; minute++) {
            due.is("over() at " + minute, x.over(), Math.max(0, 6 - minute));
            x.minutes(1);
        }
        x.hush(0, 1);
        x.minutes(9);
        x.letDown(5);
        due.is("what is left is no more than PLANK", x.over(), NONE);
    }

    private static void overOnlyIfMoreThanPlank() {
        due.about("more than PLANK is in the pond");
        NearlySaid x = Due.with("g9,9;s0,9,0;");
        x.minutes(2);
        due.is("the pond", x.stand(0), 9);
        due.is("as much as PLANK", x.over(), 1);
        x.hush(0, 1);
        x.minutes(1);
        x.letDown(9);
        due.is("as much as PLANK for ever", x.over(), NONE);
        due.is("PLANK 0, nothing comes", Due.with("g9,0;k0,1,0;").over(), NONE);
        due.is("PLANK 0, 1 comes", Due.with("g9,0;s0,1,0;").over(), 2);
    }

    private static void overBehind200() {
        due.about("200 at most");
        // One that is nervous brings 1 in two MINUTES: 100 are there behind 200.
        NearlySaid x = Due.with("g1,99;n0,1,0;");
        due.is("behind 200", x.over(), 200);
        x.hush(0, 1);
        x.minutes(1);
        x.hush(0, 0);
        due.is("behind 201", x.over(), NONE);
        x.undo();
        x.undo();
        x.undo();
        x.minutes(1);
        due.is("behind 199", x.over(), 199);
    }

    private static void fullNow() {
        due.about("from now on (now, too)");
        NearlySaid x = Due.with("g1,0;s0,1,0;k0,1,3;");
        int[] behind = {4, 3, 2, 1, 0, 0, 0};
        for (int minute = 0; minute < behind.length; minute++) {
            due.is("full(0) at " + minute, x.full(0), 1);
            due.is("full(1) at " + minute, x.full(1), behind[minute]);
            x.minutes(1);
        }
        x.bars(1, 2);
        due.is("forked free: full(1)", x.full(1), 2);
    }

    private static void fullOfSeveralTheFirst() {
        due.about("of several the first");
        NearlySaid x = Due.with("g9,0;s0,9,0;s0,9,2;s0,9,2;s0,9,1;s0,9,1;");
        due.is("full(0): the soonest, of these the first", x.full(0), 3);
        due.is("full(1)", x.full(1), 2);
        x.minutes(2);
        due.is("full(0), now", x.full(0), 3);
        due.is("full(1), now", x.full(1), 0);
        x.minutes(1);
        due.is("full(0), all are", x.full(0), 1);
        due.is("full(1), all are", x.full(1), 0);
    }

    private static void fullLeavesOutNoBars() {
        due.about("the first bars (not 0)");
        NearlySaid x = Due.with("g9,0;s0,9,0;k0,1,0;k0,1,0;");
        due.is("full(0), no bars", x.full(0), NONE);
        due.is("full(1), no bars", x.full(1), NONE);
        x.bars(2, 1);
        due.is("full(0)", x.full(0), 2);
        x.bars(2, 0);
        due.is("full(0), none again", x.full(0), NONE);
        x.bars(0, 1);
        due.is("full(0), where nothing comes", x.full(0), NONE);
        due.is("full(1), where nothing comes", x.full(1), NONE);
    }

    /** The slowest that bars can be filled: 1 in two MINUTES from the top, 9 of the last one. 99 is never reached. */
    private static void fullAtTheLatest() {
        due.about("within 99 MINUTES");
        NearlySaid x = Due.with("g1,0;n0,1,0;k0,1,0;k0,1,0;k0,1,0;k0,1,0;k0,1,0;k0,1,9;");
        due.is("full(0)", x.full(0), 6);
        due.is("full(1)", x.full(1), 7 + 16);
        x.hush(0, 1);
        due.is("full(0), hushed", x.full(0), NONE);
    }

    private static void mostNow() {
        due.about("MOST of a gutter within n MINUTES (0 to 99; now, too)");
        NearlySaid x = Due.with("g1,0;s0,9,0;k0,1,0;");
        x.minutes(10);
        int now = x.house(0, 3);
        due.is("most(0, 0, 0)", x.most(0, 0, 0), now);
        due.is("most(0, 0, 1)", x.most(0, 0, 1), 0);
        due.is("most(0, 1, 0)", x.most(0, 1, 0), now + 8);
        due.is("most(0, 99, 0)", x.most(0, 99, 0), now + 8 * 99);
        due.is("most(0, 99, 1)", x.most(0, 99, 1), 99);
        x.hush(0, 1);
        due.is("most(0, 99, 0), less and less", x.most(0, 99, 0), now);
        due.is("most(0, 99, 1), less and less", x.most(0, 99, 1), 0);
        due.is("most(0, 100, 0)", x.most(0, 100, 0), BAD);
    }

    private static void mostFirst() {
        due.about("the most that is in it; behind how many first");
        NearlySaid x = Due.with("g9,0;n0,5,0;");
        due.is("most(0, 9, 0)", x.most(0, 9, 0), 5);
        due.is("most(0, 9, 1)", x.most(0, 9, 1), 1);
        x.minutes(1);
        due.is("now and again: most(0, 9, 1)", x.most(0, 9, 1), 0);
        x.minutes(1);
        due.is("from an even MINUTE on: most(0, 9, 1)", x.most(0, 9, 1), 1);
        due.is("nothing at all: most(0, 9, 1)", Due.with("g9,0;k0,1,0;").most(0, 9, 1), 0);
        x = Due.with("g1,0;h20,1,0;");
        due.is("a full gutter: most(0, 99, 0)", x.most(0, 99, 0), 999);
        due.is("a full gutter: most(0, 99, 1)", x.most(0, 99, 1), 26);
    }

    private static void hushNone() {
        due.about("HUSH; NONE");
        NearlySaid x = Due.with("g1,0;s0,9,0;k0,1,0;");
        x.minutes(1);
        due.is("9 are there, 1 flows", x.hushes(0, 8, 0), NONE);
        due.is("which", x.hushes(0, 8, 1), NONE);
        due.is("all has flown behind 9", x.hushes(0, 9, 0), 1);
        due.is("which", x.hushes(0, 9, 1), 1);
        x.minutes(24);
        due.is("behind 40", x.hushes(0, 40, 0), NONE);
    }

    private static void hushAll() {
        due.about("the fewest houses to be hushed now so that nothing is in its gutter behind them");
        NearlySaid x = Due.with(SEVEN);
        for (int h = 0; h < 7; h++) {
            for (int n = 1; n <= 40; n++) {
                int many = Math.min(n, h + 1);
                due.is("hushes(" + h + ", " + n + ", 0)", x.hushes(h, n, 0), many);
                if (n <= 8) {
                    int which = (1 << h + 1) - (1 << h + 1 - many);
                    due.is("hushes(" + h + ", " + n + ", 1)", x.hushes(h, n, 1), which);
                }
            }
        }
    }

    private static void hushNobody() {
        due.about("HUSH of none");
        NearlySaid x = Due.with("g9,0;k0,1,0;s0,1,0;");
        due.is("how many", x.hushes(0, 40, 0), 0);
        due.is("which", x.hushes(0, 40, 1), 0);
        // Behind an odd MINUTE a nervous one's gutter is dry by itself.
        x = Due.with("g9,0;n0,1,0;");
        due.is("behind 1", x.hushes(0, 1, 0), 1);
        due.is("behind 2", x.hushes(0, 2, 0), 0);
    }

    private static void hushMoreThanAre() {
        due.about("(more than are)");
        NearlySaid x = Due.with(SEVEN);
        int open = 127;
        for (int h = 0; h < 7; h++) {
            due.is("how many", x.hushes(6, 40, 0), 7 - h);
            due.is("which", x.hushes(6, 40, 1), open);
            due.is("spares: how many", x.spares(40, 0), 7 - h);
            due.is("spares: which", x.spares(40, 1), open);
            x.hush(h, 1);
            open &= ~(1 << h);
        }
        due.is("all are: how many", x.hushes(6, 40, 0), 0);
        due.is("all are: which", x.hushes(6, 40, 1), 0);
        due.is("all are: spares", x.spares(40, 0), 0);
    }

    private static void hushOfSeveralTheLeast() {
        due.about("which (bits), of several the least");
        // 1 flows from the first two together, and bars catch 1 of each flow: one of them may go on.
        NearlySaid x = Due.with("g9,0;s0,1,0;s0,1,0;k0,1,9;");
        due.is("how many", x.hushes(2, 3, 0), 1);
        due.is("which", x.hushes(2, 3, 1), 1);
        due.is("how many, if the first is", hushed(x, 0).hushes(2, 3, 0), 0);
    }

    private static NearlySaid hushed(NearlySaid x, int house) {
        x.hush(house, 1);
        return x;
    }

    private static void spareAtThePlank() {
        due.about("so that no more than PLANK is in the pond behind them");
        for (int plank = 0; plank <= 39; plank += 13) {
            NearlySaid x = Due.with("g1," + plank + ";s0,1,0;");
            for (int n = 1; n <= 40; n++) {
                due.is("spares(" + n + ", 0), PLANK " + plank, x.spares(n, 0), n - 1 > plank ? 1 : 0);
                due.is("spares(" + n + ", 1), PLANK " + plank, x.spares(n, 1), n - 1 > plank ? 1 : 0);
            }
        }
    }

    private static void spareOfSeveralTheLeast() {
        due.about("which (bits), likewise");
        // Behind 3 there are 2 by the last one, 1 by the first one.
        NearlySaid x = Due.with("g9,2;s0,1,0;s0,1,0;");
        due.is("how many", x.spares(3, 0), 1);
        due.is("which", x.spares(3, 1), 1);
        // The fewest, though their bits are more: the last one brings 9 alone.
        x = Due.with("g9,4;s0,1,0;s0,1,0;s0,9,0;");
        due.is("the fewest: how many", x.spares(3, 0), 1);
        due.is("the fewest: which", x.spares(3, 1), 4);
    }

    private static void spareNone() {
        due.about("SPARE; NONE");
        NearlySaid x = Due.with("g2,3;s0,4,0;");
        x.minutes(2);
        due.is("2 are there, 6 in the gutter: behind 1", x.spares(1, 0), NONE);
        due.is("which", x.spares(1, 1), NONE);
        x.letDown(1);
        due.is("1 less: behind 1, as it is", x.spares(1, 0), 0);
        due.is("1 less: behind 2", x.spares(2, 0), NONE);
    }

    private static void catchOfSeveralTheFirst() {
        due.about("the house where bars of 9, put now, let least be in the pond, of several the first");
        NearlySaid x = Due.with("g1,0;k0,1,0;k0,1,0;k0,1,0;");
        due.is("nothing comes: which", x.catches(40, 0), 0);
        due.is("nothing comes: how much", x.catches(40, 1), 0);
        x = Due.with("g1,0;s0,1,0;k0,1,0;k0,1,0;k0,1,0;");
        due.is("all but the first catch it: which", x.catches(40, 0), 1);
        due.is("all but the first catch it: how much", x.catches(40, 1), 40 - 4 - 9);
        due.is("too soon: which", x.catches(4, 0), 0);
        due.is("the first that comes: which", x.catches(5, 0), 1);
        due.is("the first that comes: how much", x.catches(5, 1), 0);
        x = Due.with("g1,0;k0,1,0;k0,1,0;s0,1,0;k0,1,0;");
        due.is("the last one alone: which", x.catches(9, 0), 3);
        due.is("an only house: which", Due.with("g1,0;s0,1,0;").catches(9, 0), 0);
        due.is("an only house: how much", Due.with("g1,0;s0,1,0;").catches(9, 1), 8);
    }

    private static void catchPutNow() {
        due.about("bars of 9, put now");
        // Each of the two sets of bars holds back 9; put anew, those that are full hold back 9 more.
        NearlySaid x = Due.with("g1,0;s0,1,0;k0,1,9;k0,1,9;");
        pass(x, 12);
        due.is("CAUGHT", x.house(1, 4), 9);
        due.is("CAUGHT below", x.house(2, 4), 1);
        due.is("which", x.catches(20, 0), 1);
        due.is("how much", x.catches(20, 1), 20 - 1 - 8 - 9);
        due.is("BARS are as they were", x.house(1, 4), 9);
    }

    private static void catchOfSeven() {
        due.about("the house where bars of 9 let least be in the pond, of 7");
        NearlySaid x = Due.with("g1,0;k0,1,0;k0,1,0;k0,1,0;k0,1,0;k0,1,0;s0,1,0;k0,1,0;");
        due.is("the last of seven: which", x.catches(40, 0), 6);
        due.is("the last of seven: how much", x.catches(40, 1), 40 - 2 - 9);
    }

    private static void fromNothing() {
        due.about("FROM a house in n MINUTES (1000 more)");
        NearlySaid x = Due.with("g9,0;s0,1,0;s0,2,0;");
        due.is("behind 1", x.from(1, 1), 1000);
        for (int n = 2; n <= 40; n++) {
            due.is("from(1, " + n + ")", x.from(1, n), 1000 + 2 * (n - 1));
            due.is("from(0, " + n + ")", x.from(0, n), 1000 + n - 2);
        }
        x.hush(1, 1);
        due.is("it is hushed", x.from(1, 40), 1000);
    }

    private static void fromMost() {
        due.about("by how much less is in the pond");
        NearlySaid x = Due.with("g9,0;h20,1,0;");
        due.is("the most", x.from(0, 40), 1000 + 9 * 39);
        x.minutes(24);
        due.is("enough is in the gutter anyway", x.from(0, 40), 1000);
    }

    private static void loudFromEndToEnd() {
        due.about("the least TALK (0 to 20) of it from now on");
        for (int plank = 0; plank <= 22; plank++) {
            // Behind 3 there is twice TALK, as far as STEP lets it through: 18.
            NearlySaid x = Due.with("g9," + plank + ";k5,1,0;");
            due.is("PLANK " + plank, x.loud(0, 3), plank >= 18 ? NONE : plank / 2 + 1);
            due.is("TALK is as it was", x.house(0, 0), 5);
        }
        due.is("0, whatever it is", Due.with("g9,0;s0,1,0;").loud(0, 2), 0);
        due.is("1 of a merry one", Due.with("g9,0;m0,9,0;").loud(0, 2), 1);
        due.is("20", Due.with("g9,1;k0,9,0;").loud(0, 2), 18);
        due.is("20 by 5", Due.with("g9,3;k0,5,0;").loud(0, 2), 20);
        due.is("20 by 5 is no more", Due.with("g9,4;k0,5,0;").loud(0, 2), NONE);
    }

    private static void loudNone() {
        due.about("LOUD; NONE");
        NearlySaid x = Due.with("g1,97;k0,1,0;");
        due.is("behind 98", x.loud(0, 98), NONE);
        due.is("behind 99", x.loud(0, 99), 1);
        x.hush(0, 1);
        due.is("it is hushed", x.loud(0, 99), NONE);
        x = Due.with("g1,98;k0,1,0;");
        due.is("behind 99, as much as PLANK", x.loud(0, 99), NONE);
        x = Due.with("g1,0;k0,1,0;");
        due.is("behind 1", x.loud(0, 1), NONE);
    }

    private static void dryFromNoneToAll() {
        due.about("DRY: houses (bits) in whose gutters nothing is now");
        NearlySaid x = Due.with(SEVEN);
        due.is("all", x.dry(), 127);
        x.minutes(1);
        due.is("none", x.dry(), 0);
        for (int h = 0; h < 7; h++) {
            x.hush(h, 1);
        }
        for (int m = 1; m <= 7; m++) {
            x.minutes(1);
            due.is("behind " + m, x.dry(), (1 << m) - 1);
        }
    }

    private static void lagOfEach() {
        due.about("LAG: behind how many MINUTES something is in the pond first; NONE");
        NearlySaid x = Due.with(SEVEN);
        for (int h = 0; h < 7; h++) {
            due.is("lag(" + h + "), nothing is there", x.lag(h), NONE);
        }
        x.minutes(1);
        for (int h = 0; h < 7; h++) {
            due.is("lag(" + h + ")", x.lag(h), 7 - h);
        }
        due.is("lag(7)", x.lag(7), BAD);
    }

    private static void lagLeavesAllElseOut() {
        due.about("were all gutters but its own empty, the pond, too, all hushed, no bars");
        NearlySaid x = Due.with("g1,0;k1,1,9;k0,1,9;k0,1,9;");
        x.minutes(1);
        due.is("1 there, that bars would catch", x.lag(0), 3);
        x = Due.with("g1,0;s0,9,0;s0,9,0;");
        x.minutes(9);
        due.is("the pond", x.stand(0), 8);
        due.is("something is in the pond", x.lag(1), 1);
        due.is("something is on the way", x.lag(0), 2);
        x = Due.with("g1,0;s0,9,0;k0,1,0;");
        due.is("it sheds from now on, but is empty", x.lag(0), NONE);
        x.minutes(1);
        x.hush(0, 1);
        due.is("it is hushed, but has some", x.lag(0), 2);
        due.is("an empty one below it", x.lag(1), NONE);
    }
}
