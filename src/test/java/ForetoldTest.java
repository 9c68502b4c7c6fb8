/** Promises 17 to 28: what is foretold. */
public final class ForetoldTest {
    private static final int BAD = NearlySaid.BAD, STATE = NearlySaid.STATE, NONE = NearlySaid.NONE;
    /** Its gutters go 2 4 1, 2 7 2, 2 10 3, 2 14 4, 2 18 5; the pond 0 1 3 5 7; CAUGHT 0 2 3 3 3. */
    private static final String THREE = "g2,3;m4,3,0;k8,2,2;s0,1,1;";
    private static final Due due = new Due("ForetoldTest");

    public static void main(String[] args) {
        ahead();
        pond();
        over();
        full();
        most();
        hushes();
        hushesOfSomeThatAre();
        spares();
        catches();
        from();
        loud();
        dry();
        lag();
        nothingChanges();
        due.end();
    }

    private static void ahead() {
        NearlySaid x = Due.with(THREE);
        int[][] want = {{0, 0, 0}, {2, 4, 1}, {2, 7, 2}, {2, 10, 3}, {2, 14, 4}, {2, 18, 5}};
        for (int n = 0; n < want.length; n++) {
            for (int h = 0; h < 3; h++) {
                due.is("ahead(" + h + ", " + n + ")", x.ahead(h, n), want[n][h]);
            }
        }
        due.is("ahead(1, 99)", x.ahead(1, 99), 10 + 4 * 96);
        due.is("ahead(0, 100)", x.ahead(0, 100), BAD);
        due.is("ahead(0, -1)", x.ahead(0, -1), BAD);
        due.is("ahead(3, 1)", x.ahead(3, 1), BAD);
        due.is("ahead(-1, 1)", x.ahead(-1, 1), BAD);
        due.is("ahead(0, 0), no STREET", new NearlySaid().ahead(0, 0), BAD);
        x = Due.with("g1,0;n0,3,0;");
        x.minutes(1);
        due.is("a nervous one, from an odd MINUTE on", x.ahead(0, 1), 2);
        due.is("a nervous one, then even", x.ahead(0, 2), 4);
    }

    private static void pond() {
        NearlySaid x = Due.with(THREE);
        int[] pond = {0, 0, 1, 3, 5, 7};
        int[] caught = {0, 0, 2, 3, 3, 3};
        for (int n = 0; n < pond.length; n++) {
            due.is("pond(" + n + ", 0)", x.pond(n, 0), pond[n]);
            due.is("pond(" + n + ", 1)", x.pond(n, 1), caught[n]);
        }
        due.is("pond(99, 0)", x.pond(99, 0), 3 + 2 * 96);
        due.is("pond(100, 0)", x.pond(100, 0), BAD);
        due.is("pond(-1, 0)", x.pond(-1, 0), BAD);
        due.is("pond(1, 2)", x.pond(1, 2), BAD);
        due.is("pond(1, -1)", x.pond(1, -1), BAD);
        due.is("pond(100, 0), no STREET", new NearlySaid().pond(100, 0), STATE);
    }

    private static void over() {
        NearlySaid x = Due.with(THREE);
        due.is("over()", x.over(), 4);
        x.minutes(3);
        due.is("over() behind 3", x.over(), 1);
        x.minutes(1);
        due.is("over() now", x.over(), 0);
        due.is("over(), no STREET", new NearlySaid().over(), STATE);
        due.is("over(), nobody talks", Due.with("g1,0;k0,1,0;").over(), NONE);
        // A nervous one brings 1 every two minutes: 1 behind 2, 100 behind 200.
        due.is("over() behind 200", Due.with("g1,99;n0,1,0;").over(), 200);
        x = Due.with("g1,99;n0,1,0;");
        x.hush(0, 1);
        x.minutes(1);
        x.hush(0, 0);
        due.is("over() beyond 200", x.over(), NONE);
    }

    private static void full() {
        NearlySaid x = Due.with(THREE);
        due.is("full(0)", x.full(0), 2);
        due.is("full(1)", x.full(1), 2);
        x.minutes(2);
        due.is("full(0), now", x.full(0), 2);
        due.is("full(1), now", x.full(1), 0);
        x.minutes(1);
        due.is("full(0), of several", x.full(0), 1);
        x.bars(1, 0);
        due.is("full(0), no bars", x.full(0), 2);
        x.bars(2, 9);
        due.is("full(1) of 9", x.full(1), 9);
        due.is("full(2)", x.full(2), BAD);
        due.is("full(-1)", x.full(-1), BAD);
        due.is("full(2), no STREET", new NearlySaid().full(2), STATE);
        x = Due.with("g1,0;s0,1,9;k0,1,0;");
        due.is("full(0) of the first one's", x.full(0), NONE);
        due.is("full(1) of the first one's", x.full(1), NONE);
    }

    private static void most() {
        NearlySaid x = Due.with(THREE);
        due.is("most(1, 5, 0)", x.most(1, 5, 0), 18);
        due.is("most(1, 5, 1)", x.most(1, 5, 1), 5);
        due.is("most(0, 5, 0)", x.most(0, 5, 0), 2);
        due.is("most(0, 5, 1), the first", x.most(0, 5, 1), 1);
        due.is("most(1, 0, 0)", x.most(1, 0, 0), 0);
        due.is("most(1, 0, 1)", x.most(1, 0, 1), 0);
        due.is("most(1, 99, 1)", x.most(1, 99, 1), 99);
        x.minutes(3);
        x.hush(1, 1);
        x.hush(0, 1);
        due.is("most(1, 9, 0), now", x.most(1, 9, 0), 10);
        due.is("most(1, 9, 1), now", x.most(1, 9, 1), 0);
        due.is("most(1, 100, 0)", x.most(1, 100, 0), BAD);
        due.is("most(1, -1, 0)", x.most(1, -1, 0), BAD);
        due.is("most(3, 1, 0)", x.most(3, 1, 0), BAD);
        due.is("most(1, 1, 2)", x.most(1, 1, 2), BAD);
        due.is("most(1, 1, -1)", x.most(1, 1, -1), BAD);
    }

    private static void hushes() {
        NearlySaid x = Due.with(THREE);
        int[][] want = {{1, 1, 4}, {2, 2, 6}, {3, 2, 6}, {4, 3, 7}};
        for (int[] w : want) {
            due.is("hushes(2, " + w[0] + ", 0)", x.hushes(2, w[0], 0), w[1]);
            due.is("hushes(2, " + w[0] + ", 1)", x.hushes(2, w[0], 1), w[2]);
        }
        due.is("hushes(0, 40, 1)", x.hushes(0, 40, 1), 1);
        due.is("hushes(0, 41, 0)", x.hushes(0, 41, 0), BAD);
        due.is("hushes(0, 0, 0)", x.hushes(0, 0, 0), BAD);
        due.is("hushes(0, 1, 2)", x.hushes(0, 1, 2), BAD);
        due.is("hushes(0, 1, -1)", x.hushes(0, 1, -1), BAD);
        due.is("hushes(3, 1, 0)", x.hushes(3, 1, 0), BAD);
        x.minutes(3);
        due.is("hushes(1, 1, 0), too much there", x.hushes(1, 1, 0), NONE);
        due.is("hushes(1, 1, 1), too much there", x.hushes(1, 1, 1), NONE);
    }

    private static void hushesOfSomeThatAre() {
        NearlySaid x = Due.with(THREE);
        x.hush(1, 1);
        due.is("hushes(2, 2, 0), one is", x.hushes(2, 2, 0), 1);
        due.is("hushes(2, 2, 1), one is", x.hushes(2, 2, 1), 4);
        due.is("hushes(1, 1, 0), dry as it is", x.hushes(1, 1, 0), 0);
        due.is("hushes(1, 1, 1), dry as it is", x.hushes(1, 1, 1), 0);
    }

    private static void spares() {
        NearlySaid x = Due.with(THREE);
        due.is("spares(4, 0)", x.spares(4, 0), 1);
        due.is("spares(4, 1), of several the least", x.spares(4, 1), 2);
        due.is("spares(3, 0)", x.spares(3, 0), 0);
        due.is("spares(3, 1)", x.spares(3, 1), 0);
        x.hush(1, 1);
        due.is("spares(4, 0), it is hushed", x.spares(4, 0), 0);
        x.undo();
        x.minutes(4);
        due.is("spares(1, 0), over already", x.spares(1, 0), NONE);
        due.is("spares(1, 1), over already", x.spares(1, 1), NONE);
        due.is("spares(0, 0)", x.spares(0, 0), BAD);
        due.is("spares(41, 0)", x.spares(41, 0), BAD);
        due.is("spares(1, 2)", x.spares(1, 2), BAD);
        due.is("spares(1, -1)", x.spares(1, -1), BAD);
        due.is("spares(0, 0), no STREET", new NearlySaid().spares(0, 0), STATE);
    }

    private static void catches() {
        NearlySaid x = Due.with(THREE);
        due.is("catches(4, 0), all alike", x.catches(4, 0), 0);
        due.is("catches(4, 1), all alike", x.catches(4, 1), 5);
        due.is("catches(1, 1)", x.catches(1, 1), 0);
        x = Due.with("g1,0;s0,1,0;k0,1,0;k0,1,1;");
        due.is("catches(8, 0)", x.catches(8, 0), 1);
        due.is("catches(8, 1)", x.catches(8, 1), 0);
        x.minutes(9);
        x.bars(1, 9);
        x.minutes(9);
        // The bars of 1 are full, the pond has 7; put anew they hold back 9 more, as those of 2 would.
        due.is("the pond", x.stand(0), 7);
        due.is("catches(2, 0), nothing comes so soon", x.catches(2, 0), 0);
        due.is("catches(3, 0), bars that are full", x.catches(3, 0), 1);
        due.is("catches(3, 1), bars that are full", x.catches(3, 1), 7);
        due.is("catches(40, 0)", x.catches(40, 0), 1);
        due.is("catches(40, 1)", x.catches(40, 1), 7 + 40 - 2 - 9);
        due.is("catches(0, 0)", x.catches(0, 0), BAD);
        due.is("catches(41, 0)", x.catches(41, 0), BAD);
        due.is("catches(1, 2)", x.catches(1, 2), BAD);
        due.is("catches(1, -1)", x.catches(1, -1), BAD);
        due.is("catches(0, 0), no STREET", new NearlySaid().catches(0, 0), STATE);
    }

    private static void from() {
        NearlySaid x = Due.with(THREE);
        due.is("from(0, 4)", x.from(0, 4), 1000);
        due.is("from(1, 4)", x.from(1, 4), 1002);
        due.is("from(2, 4)", x.from(2, 4), 1002);
        due.is("from(2, 1)", x.from(2, 1), 1000);
        x.hush(1, 1);
        due.is("from(1, 4), it is hushed", x.from(1, 4), 1000);
        due.is("from(0, 9) of the only one", Due.with("g2,0;s0,1,0;").from(0, 9), 1008);
        due.is("from(0, 0)", x.from(0, 0), BAD);
        due.is("from(0, 41)", x.from(0, 41), BAD);
        due.is("from(3, 1)", x.from(3, 1), BAD);
        due.is("from(0, 1), no STREET", new NearlySaid().from(0, 1), BAD);
    }

    private static void loud() {
        NearlySaid x = Due.with(THREE);
        due.is("loud(1, 4)", x.loud(1, 4), 2);
        due.is("loud(2, 4), whatever it is", x.loud(2, 4), 0);
        due.is("loud(2, 3)", x.loud(2, 3), NONE);
        due.is("loud(1, 3)", x.loud(1, 3), NONE);
        due.is("loud(1, 99)", x.loud(1, 99), 0);
        x.hush(1, 1);
        due.is("loud(1, 4), hushed", x.loud(1, 4), NONE);
        due.is("loud(1, 0)", x.loud(1, 0), BAD);
        due.is("loud(1, 100)", x.loud(1, 100), BAD);
        due.is("loud(3, 1)", x.loud(3, 1), BAD);
        x = Due.with("g9,19;k0,1,0;");
        due.is("loud(0, 2), STEP is 9", x.loud(0, 2), NONE);
        due.is("loud(0, 4)", x.loud(0, 4), 7);
        due.is("loud(0, 3)", x.loud(0, 3), NONE);
        x = Due.with("g9,9;k0,1,0;");
        due.is("loud(0, 3), just over", x.loud(0, 3), 5);
        x = Due.with("g9,1;k0,9,0;");
        due.is("loud(0, 1), too soon", x.loud(0, 1), NONE);
        due.is("loud(0, 2), the greatest TALK nearly", x.loud(0, 2), 18);
        x = Due.with("g9,3;k0,5,0;");
        due.is("loud(0, 2), the greatest TALK", x.loud(0, 2), 20);
    }

    private static void dry() {
        NearlySaid x = Due.with(THREE);
        due.is("dry()", x.dry(), 7);
        x.hush(1, 1);
        x.minutes(1);
        due.is("dry() behind a MINUTE", x.dry(), 2);
        due.is("dry(), no STREET", new NearlySaid().dry(), STATE);
    }

    private static void lag() {
        NearlySaid x = Due.with(THREE);
        due.is("lag(0), empty", x.lag(0), NONE);
        x.hush(1, 1);
        x.minutes(1);
        due.is("lag(0)", x.lag(0), 3);
        due.is("lag(1), empty", x.lag(1), NONE);
        due.is("lag(2)", x.lag(2), 1);
        due.is("lag(3)", x.lag(3), BAD);
        due.is("lag(-1)", x.lag(-1), BAD);
        due.is("lag(0), no STREET", new NearlySaid().lag(0), BAD);
    }

    private static void nothingChanges() {
        NearlySaid x = Due.with(THREE);
        x.minutes(2);
        x.ahead(0, 9);
        x.pond(9, 0);
        x.over();
        x.full(0);
        x.most(0, 9, 0);
        x.hushes(2, 9, 0);
        x.spares(9, 0);
        x.catches(9, 0);
        x.from(0, 9);
        x.loud(0, 9);
        x.lag(0);
        x.hushed(9, 5, 0);
        x.drawn(9, 9, 0);
        due.is("MINUTE", x.count(2), 2);
        due.is("the pond", x.count(3), 1);
        due.is("CAUGHT", x.count(4), 2);
        due.is("hushed", x.count(5), 0);
        due.is("all gutters", x.stand(4), 11);
        due.is("BARS", x.house(0, 2), 0);
        due.is("TALK", x.house(0, 0), 4);
    }
}
