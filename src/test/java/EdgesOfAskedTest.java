/** Images, kinds, asks and counts at their edges: paragraph 4 and promises 33 to 40. */
public final class EdgesOfAskedTest {
    private static final int BAD = NearlySaid.BAD, STATE = NearlySaid.STATE, NONE = NearlySaid.NONE;
    private static final int KIND = -1000013;
    private static final String FIVE = "g2,3;k4,3,0;h8,2,2;m5,5,0;s7,1,1;n6,2,0;";
    private static final Due due = new Due("EdgesOfAskedTest");

    public static void main(String[] args) {
        imageOfAStreetAlone();
        imageInPlaceOfAnother();
        noActCanBeUndoneThen();
        imageKeepsAll();
        imageLeavesTheRest();
        kindsAreSuch();
        asksOfEmptyGutters();
        asksOfFullGutters();
        nearestBody();
        traceAtFirst();
        traceBeyondItsEnd();
        traceIsEmptyAhead();
        countsAtFirst();
        countsAtTheirGreatest();
        statusOfTheLatest();
        due.end();
    }

    private static void imageOfAStreetAlone() {
        due.about("image: BAD; STATE: no STREET. restore: BAD; STATE: none was kept");
        NearlySaid x = new NearlySaid();
        for (int k = 0; k <= 1; k++) {
            due.is("image(" + k + ")", x.image(k), STATE);
            due.is("restore(" + k + ")", x.restore(k), STATE);
        }
        due.is("image(2)", x.image(2), BAD);
        due.is("restore(2)", x.restore(2), BAD);
        Due.read(x, FIVE);
        due.is("restore(0), a STREET, none kept", x.restore(0), STATE);
        due.is("image(0)", x.image(0), 1);
        due.is("restore(1), the other was kept", x.restore(1), STATE);
        due.is("restore(0)", x.restore(0), 1);
        due.is("image(1)", x.image(1), 1);
        due.is("restore(1)", x.restore(1), 1);
    }

    private static void imageInPlaceOfAnother() {
        due.about("An IMAGE (0, 1) is kept of the STREET");
        NearlySaid x = Due.with(FIVE);
        x.image(0);
        x.minutes(1);
        x.image(1);
        x.minutes(1);
        x.image(0);
        x.minutes(1);
        due.is("restore(1)", x.restore(1), 1);
        due.is("MINUTE of 1", x.count(2), 1);
        due.is("restore(0)", x.restore(0), 1);
        due.is("MINUTE of 0", x.count(2), 2);
        x.minutes(5);
        due.is("restore(0) again", x.restore(0), 1);
        due.is("an IMAGE does not go on", x.count(2), 2);
    }

    private static void noActCanBeUndoneThen() {
        due.about("no ACT can be undone then");
        NearlySaid x = Due.with(FIVE);
        x.minutes(24);
        x.image(0);
        due.is("ACTS behind image()", x.count(6), 24);
        due.is("undo() behind image()", x.undo(), 23);
        x.restore(0);
        due.is("ACTS behind restore()", x.count(6), 0);
        due.is("undo() behind restore()", x.undo(), STATE);
        due.is("MINUTE", x.count(2), 24);
        x.talk(0, 1);
        due.is("undo() of what came behind it", x.undo(), 0);
        due.is("TALK", x.house(0, 0), 4);
    }

    private static void imageKeepsAll() {
        due.about("The STREET is as an IMAGE kept it");
        NearlySaid x = Due.with(FIVE);
        NearlySaid twin = Due.with(FIVE);
        for (NearlySaid y : new NearlySaid[] {x, twin}) {
            y.minutes(7);
            y.hush(4, 1);
            y.talk(2, 19);
            y.bars(3, 9);
            y.minutes(2);
            y.image(1);
        }
        Due.read(x, "g9,99;n1,1,1;n1,1,1;n1,1,1;n1,1,1;n1,1,1;n1,1,1;n1,1,1;");
        x.minutes(9);
        x.hush(6, 1);
        x.restore(1);
        twin.restore(1);
        due.same("restore(1)", Seen.of(x), Seen.of(twin));
    }

    private static void imageLeavesTheRest() {
        due.about("an IMAGE is of the STREET");
        NearlySaid x = Due.with(FIVE);
        x.image(0);
        x.row(3, 0, 7);
        x.feed('g');
        x.ask(0, 1);
        x.as(0, 5);
        x.restore(0);
        due.is("ROWS", x.count(0), 1);
        due.is("bytes", x.count(7), 1);
        due.is("THE TRACE", x.trace(0), 21);
        due.is("status()", x.status(), 3);
        due.is("the ROW", x.drop(3), 7);
    }

    private static void kindsAreSuch() {
        due.about("KINDS of HOUSES");
        NearlySaid x = Due.with(FIVE);
        String[] are = {"01", "012", "013", "04", "045"};
        for (int h = 0; h < 5; h++) {
            due.is("kind(" + h + ")", x.kind(h), h + 1);
            for (int kind = 0; kind <= 5; kind++) {
                boolean is = are[h].indexOf('0' + kind) >= 0;
                due.is("as(" + h + ", " + kind + ")", x.as(h, kind), is ? h : KIND);
                due.is("status()", x.status(), is ? 0 : 3);
            }
        }
    }

    private static void asked(NearlySaid x, int one, int what, int want, int... bodies) {
        String call = "ask(" + one + ", " + what + ")";
        due.is(call, x.ask(one, what), want);
        for (int i = 0; i < 16; i++) {
            due.is("trace(" + i + ") of " + call, x.trace(i), i < bodies.length ? bodies[i] : NONE);
        }
    }

    private static void asksOfEmptyGutters() {
        due.about("ASKS of HOUSES, empty gutters");
        NearlySaid x = Due.with("g9,0;k0,1,0;h0,1,0;m0,1,0;s0,1,0;n0,1,0;k20,9,9;h20,9,9;");
        asked(x, 0, 0, 0, 11, 10, 21, 20);
        asked(x, 1, 0, -2, 12, 11, 10, 24, 21, 20);
        asked(x, 2, 0, 2 - 1000, 11, 10, 22, 21, 20);
        asked(x, 3, 0, -100, 13, 10);
        asked(x, 4, 0, -200, 14, 13, 10);
        asked(x, 5, 0, 25, 11, 10, 21, 20);
        asked(x, 6, 0, -32, 12, 11, 10, 24, 21, 20);
        asked(x, 0, 1, 0, 21, 20);
        asked(x, 1, 1, 2, 24, 21, 20);
        asked(x, 2, 1, 2 - 1000, 22, 21, 20);
        asked(x, 3, 1, 103, 23, 20, 13, 10);
        asked(x, 4, 1, 204, 23, 20, 14, 13, 10);
    }

    private static void asksOfFullGutters() {
        due.about("what is in its gutter");
        NearlySaid x = Due.with("g1,0;h20,1,0;k20,1,0;m20,1,0;");
        for (int i = 0; i < 5; i++) {
            x.minutes(24);
        }
        for (int h = 0; h < 3; h++) {
            due.is("gutter " + h, x.house(h, 3), 999);
        }
        asked(x, 0, 1, 2 * 999, 24, 21, 20);
        asked(x, 0, 0, -(20 + 2 * 999), 12, 11, 10, 24, 21, 20);
        asked(x, 1, 1, 1 + 999, 21, 20);
        asked(x, 2, 1, 2 + 999 - 1000, 22, 21, 20);
        asked(x, 2, 0, 20 + 1, 11, 10, 22, 21, 20);
    }

    private static void nearestBody() {
        due.about("else that of the nearest KIND that it is, too");
        NearlySaid x = Due.with(FIVE);
        x.ask(2, 0);
        due.is("SIZE of a MERRY one is that of a KINDLY one", x.trace(0), 11);
        due.is("MARK within is asked anew of a MERRY one", x.trace(2), 22);
        x.ask(4, 1);
        due.is("MARK of a NERVOUS one is that of a SILENT one", x.trace(0), 23);
        due.is("SIZE within is asked anew of a NERVOUS one", x.trace(2), 14);
        x.ask(1, 0);
        due.is("MARK within is asked anew of a HARD one", x.trace(3), 24);
    }

    private static void traceAtFirst() {
        due.about("Number i of THE TRACE; NONE");
        NearlySaid x = new NearlySaid();
        due.is("no STREET", x.trace(0), NONE);
        due.is("ask(0, 0)", x.ask(0, 0), BAD);
        due.is("behind a refused ask()", x.trace(0), NONE);
        Due.read(x, FIVE);
        due.is("no ask()", x.trace(0), NONE);
    }

    private static void traceBeyondItsEnd() {
        due.about("NONE beyond THE TRACE");
        NearlySaid x = Due.with(FIVE);
        x.ask(1, 0);
        due.is("the last", x.trace(5), 20);
        for (int i : new int[] {6, 7, 15, 16, 17, 100, Integer.MAX_VALUE, -1, -16, Integer.MIN_VALUE}) {
            due.is("trace(" + i + ")", x.trace(i), NONE);
        }
    }

    private static void traceIsEmptyAhead() {
        due.about("THE TRACE is empty ahead of it");
        NearlySaid x = Due.with(FIVE);
        x.ask(1, 0);
        x.ask(3, 0);
        due.is("trace(0)", x.trace(0), 13);
        due.is("trace(1)", x.trace(1), 10);
        due.is("trace(2), no more", x.trace(2), NONE);
        x.minutes(1);
        Due.read(x, "g1,0;k0,1,0;");
        due.is("it stays behind other calls", x.trace(0), 13);
    }

    private static void countsAtFirst() {
        due.about("How many, of a new object");
        NearlySaid x = new NearlySaid();
        for (int what = 0; what <= 7; what++) {
            due.is("count(" + what + ")", x.count(what), 0);
        }
        due.is("count(8)", x.count(8), BAD);
        due.is("count(-1)", x.count(-1), BAD);
    }

    private static void countsAtTheirGreatest() {
        due.about("How many, at most");
        NearlySaid x = Due.with("g9,0;s0,9,0;s0,9,9;s0,9,9;s0,9,9;s0,9,9;s0,9,9;s0,9,9;");
        for (int r = 0; r < 8; r++) {
            x.row(r, 0, 1);
        }
        for (int h = 0; h < 7; h++) {
            x.minutes(10);
            x.hush(h, 1);
        }
        for (int i = 0; i < 120; i++) {
            x.feed(0);
        }
        int[] want = {8, 7, 70, x.stand(0), 54, 127, 24, 120};
        for (int what = 0; what <= 7; what++) {
            due.is("count(" + what + ")", x.count(what), want[what]);
        }
    }

    private static void statusOfTheLatest() {
        due.about("Of the latest call with a ROW, or as(), that was not BAD, STATE, FULL");
        NearlySaid x = new NearlySaid();
        due.is("there was none", x.status(), 0);
        Due.read(x, FIVE);
        x.as(0, 5);
        due.is("KIND", x.status(), 3);
        x.undo();
        x.restore(0);
        x.hush(0, 0);
        due.is("behind STATE", x.status(), 3);
        x.row(0, 0, 41);
        x.set(8, 0, 0);
        x.copy(8, 0, 0, 0, 0);
        x.drop(8);
        x.who(0, 0, 0, 0, 0, 0);
        x.silent(0, 0, 0, 13);
        x.as(0, 6);
        due.is("behind BAD", x.status(), 3);
        x.ask(0, 0);
        x.kind(0);
        x.minutes(1);
        x.street();
        due.is("behind calls without a ROW", x.status(), 3);
        x.row(0, 0, 1);
        due.is("row", x.status(), 0);
        x.set(0, 1, 0);
        due.is("set, PLACE", x.status(), 2);
        x.copy(0, 0, 0, 0, 1);
        due.is("copy", x.status(), 0);
        x.copy(1, 0, 0, 0, 1);
        due.is("copy, NULL", x.status(), 1);
        x.drop(0);
        due.is("drop", x.status(), 0);
        x.drop(0);
        due.is("drop, NULL", x.status(), 1);
        x.status();
        due.is("status() leaves it", x.status(), 1);
    }
}
