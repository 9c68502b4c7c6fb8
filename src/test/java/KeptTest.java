/** Promises 33 and 34 (images), 35 to 39 (what is asked), and 40 (status) for as(). */
public final class KeptTest {
    private static final int BAD = NearlySaid.BAD, STATE = NearlySaid.STATE, NONE = NearlySaid.NONE;
    private static final int KIND = -1000013;
    private static final String FIVE = "g2,3;k4,3,0;h8,2,2;m5,5,0;s7,1,1;n6,2,0;";
    private static final Due due = new Due("KeptTest");

    public static void main(String[] args) {
        images();
        imagesRefused();
        kinds();
        as();
        ask();
        askRefused();
        count();
        due.end();
    }

    private static void images() {
        NearlySaid x = Due.with(FIVE);
        x.minutes(3);
        x.hush(1, 1);
        int pond = x.stand(0);
        int gutters = x.stand(4);
        int caught = x.stand(3);
        due.is("image(0)", x.image(0), 1);
        due.is("image() leaves the ACTS", x.count(6), 4);
        x.minutes(5);
        x.talk(0, 20);
        x.bars(3, 9);
        due.is("image(1)", x.image(1), 1);
        due.is("restore(0)", x.restore(0), 1);
        due.is("no ACT can be undone", x.undo(), STATE);
        due.is("ACTS", x.count(6), 0);
        due.is("MINUTE", x.count(2), 3);
        due.is("the pond", x.stand(0), pond);
        due.is("all gutters", x.stand(4), gutters);
        due.is("CAUGHT", x.stand(3), caught);
        due.is("hushed", x.stand(2), 2);
        due.is("TALK", x.house(0, 0), 4);
        due.is("BARS", x.house(3, 2), 1);
        Due.read(x, "g1,0;k0,1,0;");
        due.is("restore(1), over another street", x.restore(1), 1);
        due.is("HOUSES", x.count(1), 5);
        due.is("MINUTE", x.count(2), 8);
        due.is("TALK", x.house(0, 0), 20);
        x.minutes(2);
        due.is("restore(0) again", x.restore(0), 1);
        due.is("MINUTE", x.count(2), 3);
        x.minutes(1);
        due.is("restore(0) once more", x.restore(0), 1);
        due.is("MINUTE as kept", x.count(2), 3);
        Due.read(x, "g1,0;k0,1,0;");
        due.is("image(0) in place of it", x.image(0), 1);
        x.restore(1);
        x.restore(0);
        due.is("HOUSES of the new one", x.count(1), 1);
    }

    private static void imagesRefused() {
        NearlySaid x = new NearlySaid();
        due.is("image(0), no STREET", x.image(0), STATE);
        due.is("image(2), no STREET", x.image(2), BAD);
        due.is("image(-1)", x.image(-1), BAD);
        due.is("restore(0), none", x.restore(0), STATE);
        due.is("restore(2), none", x.restore(2), BAD);
        due.is("restore(-1)", x.restore(-1), BAD);
        Due.read(x, FIVE);
        x.image(0);
        due.is("restore(1), none", x.restore(1), STATE);
    }

    private static void kinds() {
        NearlySaid x = Due.with(FIVE);
        for (int h = 0; h < 5; h++) {
            due.is("kind(" + h + ")", x.kind(h), h + 1);
        }
        due.is("kind(5)", x.kind(5), BAD);
        due.is("kind(-1)", x.kind(-1), BAD);
        due.is("kind(0), no STREET", new NearlySaid().kind(0), BAD);
    }

    private static void as() {
        NearlySaid x = Due.with(FIVE);
        boolean[][] is = {
            {true, true, false, false, false, false},
            {true, true, true, false, false, false},
            {true, true, false, true, false, false},
            {true, false, false, false, true, false},
            {true, false, false, false, true, true},
        };
        for (int h = 0; h < 5; h++) {
            for (int kind = 0; kind <= 5; kind++) {
                due.is("as(" + h + ", " + kind + ")", x.as(h, kind), is[h][kind] ? h : KIND);
                due.is("status()", x.status(), is[h][kind] ? 0 : 3);
            }
        }
        x.as(0, 5);
        due.is("as(5, 0)", x.as(5, 0), BAD);
        due.is("as(-1, 0)", x.as(-1, 0), BAD);
        due.is("as(0, 6)", x.as(0, 6), BAD);
        due.is("as(0, -1)", x.as(0, -1), BAD);
        due.is("status() behind BAD", x.status(), 3);
    }

    private static void asked(NearlySaid x, int one, int what, int want, int... bodies) {
        String call = "ask(" + one + ", " + what + ")";
        due.is(call, x.ask(one, what), want);
        for (int i = 0; i < bodies.length; i++) {
            due.is("trace(" + i + ") of " + call, x.trace(i), bodies[i]);
        }
        due.is("the end of the trace of " + call, x.trace(bodies.length), NONE);
    }

    private static void ask() {
        NearlySaid x = Due.with(FIVE);
        due.is("trace(0) at first", x.trace(0), NONE);
        x.minutes(1);
        // The gutters have 1, 8, 2, 1, 2 then.
        asked(x, 0, 0, 4 + (0 + 1), 11, 10, 21, 20);
        asked(x, 0, 1, 0 + 1, 21, 20);
        asked(x, 1, 0, -(8 + 2 * (1 + 8)), 12, 11, 10, 24, 21, 20);
        asked(x, 1, 1, 2 * (1 + 8), 24, 21, 20);
        asked(x, 2, 0, 5 + (2 + 2 - 1000), 11, 10, 22, 21, 20);
        asked(x, 2, 1, 2 + 2 - 1000, 22, 21, 20);
        asked(x, 3, 0, 7 - 100, 13, 10);
        asked(x, 3, 1, 3 - (7 - 100), 23, 20, 13, 10);
        asked(x, 4, 0, 2 * (6 - 100), 14, 13, 10);
        asked(x, 4, 1, 4 - 2 * (6 - 100), 23, 20, 14, 13, 10);
        due.is("trace(-1)", x.trace(-1), NONE);
        due.is("trace(16)", x.trace(16), NONE);
        due.is("trace(MAX)", x.trace(Integer.MAX_VALUE), NONE);
    }

    private static void askRefused() {
        NearlySaid x = Due.with(FIVE);
        x.ask(0, 0);
        due.is("ask(5, 0)", x.ask(5, 0), BAD);
        due.is("ask(-1, 0)", x.ask(-1, 0), BAD);
        due.is("ask(0, 2)", x.ask(0, 2), BAD);
        due.is("ask(0, -1)", x.ask(0, -1), BAD);
        due.is("the trace stays", x.trace(0), 11);
        due.is("ask(0, 0), no STREET", new NearlySaid().ask(0, 0), BAD);
    }

    private static void count() {
        NearlySaid x = Due.with(FIVE);
        x.row(0, 0, 1);
        x.row(4, 0, 1);
        x.minutes(9);
        x.hush(3, 1);
        x.feed(1);
        x.feed(2);
        x.feed(3);
        int[] want = {2, 5, 9, x.stand(0), x.stand(3), 8, 10, 3};
        for (int what = 0; what < 8; what++) {
            due.is("count(" + what + ")", x.count(what), want[what]);
        }
        due.is("count(8)", x.count(8), BAD);
        due.is("count(-1)", x.count(-1), BAD);
    }
}
