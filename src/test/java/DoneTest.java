/** Promises 9 to 16: undo, and what is done. */
public final class DoneTest {
    private static final int BAD = NearlySaid.BAD, STATE = NearlySaid.STATE, FULL = NearlySaid.FULL;
    private static final String THREE = "g2,3;m4,3,0;k8,2,2;s0,1,1;";
    private static final Due due = new Due("DoneTest");

    public static void main(String[] args) {
        minutes();
        minutesRefused();
        sheds();
        flows();
        rooms();
        talk();
        hush();
        bars();
        letDown();
        house();
        stand();
        undo();
        oldestIsForgotten();
        whatMakesNoAct();
        due.end();
    }

    private static void gutters(NearlySaid x, int pond, int... want) {
        due.is("the pond at " + x.count(2), x.stand(0), pond);
        for (int h = 0; h < want.length; h++) {
            due.is("gutter " + h + " at " + x.count(2), x.house(h, 3), want[h]);
        }
    }

    private static void minutes() {
        NearlySaid x = Due.with(THREE);
        due.is("minutes(1)", x.minutes(1), 0);
        gutters(x, 0, 2, 4, 1);
        due.is("minutes(1)", x.minutes(1), 1);
        gutters(x, 1, 2, 7, 2);
        due.is("CAUGHT at 1", x.house(1, 4), 1);
        due.is("CAUGHT at 2", x.house(2, 4), 1);
        due.is("minutes(1)", x.minutes(1), 3);
        gutters(x, 3, 2, 10, 3);
        due.is("CAUGHT at 1, full", x.house(1, 4), 2);
        due.is("CAUGHT at 2, full", x.house(2, 4), 1);
        due.is("minutes(2)", x.minutes(2), 7);
        gutters(x, 7, 2, 18, 5);
        due.is("MINUTE", x.count(2), 5);
        due.is("ACTS", x.count(6), 5);
    }

    private static void minutesRefused() {
        NearlySaid x = new NearlySaid();
        due.is("minutes(1), no STREET", x.minutes(1), STATE);
        due.is("minutes(0), no STREET", x.minutes(0), STATE);
        x = Due.with(THREE);
        due.is("minutes(0)", x.minutes(0), BAD);
        due.is("minutes(-1)", x.minutes(-1), BAD);
        due.is("minutes(25)", x.minutes(25), BAD);
        due.is("minutes(MAX)", x.minutes(Integer.MAX_VALUE), BAD);
        for (int i = 0; i < 41; i++) {
            x.minutes(24);
        }
        due.is("MINUTE", x.count(2), 984);
        due.is("minutes(16)", x.minutes(16), FULL);
        due.is("BAD ahead of FULL", x.minutes(25), BAD);
        due.is("MINUTE behind FULL", x.count(2), 984);
        x.minutes(15);
        due.is("MINUTE at last", x.count(2), 999);
        due.is("minutes(1)", x.minutes(1), FULL);
        x.undo();
        due.is("MINUTE behind undo()", x.count(2), 998);
    }

    private static void sheds() {
        NearlySaid x = Due.with("g9,9;k7,4,0;h7,4,0;m7,4,0;s7,4,0;n7,4,0;m0,4,0;h20,1,0;");
        int[] even = {1, 2, 2, 4, 4, 0, 40};
        for (int h = 0; h < 7; h++) {
            due.is("SHEDS of " + h, x.house(h, 5), even[h]);
        }
        x.minutes(1);
        for (int h = 0; h < 7; h++) {
            due.is("gutter of " + h, x.house(h, 3), even[h]);
            due.is("SHEDS of " + h + ", odd", x.house(h, 5), h == 4 ? 0 : even[h]);
        }
        for (int h = 0; h < 7; h++) {
            x.hush(h, 1);
            due.is("SHEDS of " + h + ", hushed", x.house(h, 5), 0);
        }
        x = Due.with("g9,9;m1,9,0;k3,4,0;h3,4,0;");
        due.is("a merry one's 1 more", x.house(0, 5), 1);
        due.is("a kindly one's cut", x.house(1, 5), 0);
        due.is("twice what is cut", x.house(2, 5), 0);
    }

    private static void flows() {
        NearlySaid x = Due.with("g3,0;s0,9,9;k0,1,0;k0,1,2;");
        x.minutes(1);
        gutters(x, 0, 9, 0, 0);
        x.minutes(1);
        gutters(x, 0, 15, 3, 0);
        x.minutes(1);
        gutters(x, 0, 21, 3, 2);
        x.minutes(1);
        gutters(x, 2, 27, 3, 2);
        x.minutes(1);
        gutters(x, 4, 33, 3, 3);
        due.is("nothing flows to the first one's bars", x.house(0, 4), 0);
        due.is("CAUGHT at 2", x.house(2, 4), 2);
    }

    private static void rooms() {
        NearlySaid x = Due.with("g9,99;h20,1,0;h20,1,0;");
        for (int i = 0; i < 40; i++) {
            x.minutes(24);
        }
        gutters(x, 9 * 959, 999, 999);
        x = Due.with("g9,99;s0,9,0;");
        for (int i = 0; i < 41; i++) {
            x.minutes(24);
        }
        gutters(x, 9 * 983, 9);
        x = Due.with("g1,0;h20,1,0;k0,1,0;");
        x.minutes(24);
        x.minutes(1);
        due.is("below the room", x.house(0, 3), 1000 - 24);
        x.minutes(1);
        due.is("what is more is lost", x.house(0, 3), 999);
        x.hush(0, 1);
        x.minutes(1);
        due.is("less again", x.house(0, 3), 998);
    }

    private static void talk() {
        NearlySaid x = Due.with(THREE);
        due.is("talk(0, 9)", x.talk(0, 9), 4);
        due.is("talk(0, 20)", x.talk(0, 20), 9);
        due.is("talk(0, 0)", x.talk(0, 0), 20);
        due.is("house(0, 0)", x.house(0, 0), 0);
        due.is("talk(0, 21)", x.talk(0, 21), BAD);
        due.is("talk(0, -1)", x.talk(0, -1), BAD);
        due.is("talk(3, 1)", x.talk(3, 1), BAD);
        due.is("talk(-1, 1)", x.talk(-1, 1), BAD);
        due.is("talk(0, 0) of a new object", new NearlySaid().talk(0, 0), BAD);
        due.is("ACTS", x.count(6), 3);
        due.is("undo()", x.undo(), 2);
        due.is("TALK behind it", x.house(0, 0), 20);
        due.is("undo()", x.undo(), 1);
        due.is("TALK behind it", x.house(0, 0), 9);
    }

    private static void hush() {
        NearlySaid x = Due.with(THREE);
        due.is("hush(1, 0)", x.hush(1, 0), STATE);
        due.is("hush(1, 1)", x.hush(1, 1), 2);
        due.is("hush(1, 1) again", x.hush(1, 1), STATE);
        due.is("hush(2, 1)", x.hush(2, 1), 6);
        due.is("house(1, 6)", x.house(1, 6), 1);
        due.is("house(0, 6)", x.house(0, 6), 0);
        x.minutes(1);
        gutters(x, 0, 2, 0, 0);
        due.is("hush(1, 0)", x.hush(1, 0), 4);
        due.is("hush(1, 2)", x.hush(1, 2), BAD);
        due.is("hush(1, -1)", x.hush(1, -1), BAD);
        due.is("hush(3, 1)", x.hush(3, 1), BAD);
        due.is("hush(-1, 1)", x.hush(-1, 1), BAD);
        due.is("ACTS", x.count(6), 4);
        due.is("undo()", x.undo(), 3);
        due.is("hushed behind it", x.stand(2), 6);
    }

    private static void bars() {
        NearlySaid x = Due.with(THREE);
        x.minutes(3);
        due.is("bars(1, 9)", x.bars(1, 9), 2);
        due.is("BARS", x.house(1, 2), 9);
        due.is("CAUGHT", x.house(1, 4), 0);
        due.is("CAUGHT, all together", x.stand(3), 1);
        due.is("the gutter", x.house(1, 3), 10);
        due.is("bars(2, 1), as many", x.bars(2, 1), 1);
        due.is("CAUGHT, forked free", x.house(2, 4), 0);
        due.is("bars(2, 0)", x.bars(2, 0), 0);
        x.minutes(1);
        due.is("no bars catch nothing", x.house(2, 4), 0);
        due.is("new bars catch", x.house(1, 4), 1);
        due.is("bars(0, 10)", x.bars(0, 10), BAD);
        due.is("bars(0, -1)", x.bars(0, -1), BAD);
        due.is("bars(3, 1)", x.bars(3, 1), BAD);
        due.is("bars(-1, 1)", x.bars(-1, 1), BAD);
        x.undo();
        x.undo();
        x.undo();
        x.undo();
        due.is("BARS as they were", x.house(1, 2), 2);
        due.is("CAUGHT as it was", x.house(1, 4), 2);
    }

    private static void letDown() {
        NearlySaid x = new NearlySaid();
        due.is("letDown(1), no STREET", x.letDown(1), STATE);
        due.is("letDown(0), no STREET", x.letDown(0), STATE);
        x = Due.with(THREE);
        x.minutes(5);
        due.is("letDown(0)", x.letDown(0), BAD);
        due.is("letDown(100)", x.letDown(100), BAD);
        due.is("letDown(1)", x.letDown(1), 6);
        x.undo();
        due.is("letDown(3)", x.letDown(3), 4);
        due.is("letDown(99)", x.letDown(99), 0);
        due.is("undo()", x.undo(), 6);
        due.is("the pond behind it", x.stand(0), 4);
        due.is("undo()", x.undo(), 5);
        due.is("the pond behind it", x.stand(0), 7);
    }

    private static void house() {
        NearlySaid x = Due.with(THREE);
        x.minutes(2);
        int[] want = {8, 2, 2, 7, 1, 4, 0};
        for (int what = 0; what < 7; what++) {
            due.is("house(1, " + what + ")", x.house(1, what), want[what]);
        }
        due.is("house(1, 7)", x.house(1, 7), BAD);
        due.is("house(1, -1)", x.house(1, -1), BAD);
        due.is("house(3, 0)", x.house(3, 0), BAD);
        due.is("house(-1, 0)", x.house(-1, 0), BAD);
    }

    private static void stand() {
        NearlySaid x = new NearlySaid();
        due.is("stand(9), no STREET", x.stand(9), STATE);
        x = Due.with(THREE);
        x.minutes(3);
        x.hush(2, 1);
        int[] want = {3, 0, 4, 3, 15};
        for (int what = 0; what < 5; what++) {
            due.is("stand(" + what + ")", x.stand(what), want[what]);
        }
        due.is("stand(5)", x.stand(5), BAD);
        due.is("stand(-1)", x.stand(-1), BAD);
        x.minutes(1);
        due.is("stand(1), over", x.stand(1), 1);
    }

    private static void undo() {
        NearlySaid x = new NearlySaid();
        due.is("undo(), no STREET", x.undo(), STATE);
        x = Due.with(THREE);
        due.is("undo(), no ACT", x.undo(), STATE);
        x.minutes(2);
        x.talk(0, 20);
        x.hush(1, 1);
        x.minutes(1);
        due.is("undo() of a MINUTE", x.undo(), 4);
        gutters(x, 1, 2, 7, 2);
        due.is("MINUTE", x.count(2), 2);
        due.is("undo() of hush", x.undo(), 3);
        due.is("undo() of talk", x.undo(), 2);
        due.is("undo() of a MINUTE", x.undo(), 1);
        gutters(x, 0, 2, 4, 1);
        due.is("CAUGHT", x.count(4), 0);
        due.is("undo() of the first", x.undo(), 0);
        gutters(x, 0, 0, 0, 0);
        due.is("undo(), none more", x.undo(), STATE);
    }

    private static void oldestIsForgotten() {
        NearlySaid x = Due.with(THREE);
        x.minutes(24);
        due.is("ACTS", x.count(6), 24);
        x.minutes(6);
        due.is("ACTS, no more", x.count(6), 24);
        for (int left = 23; left >= 0; left--) {
            due.is("undo()", x.undo(), left);
        }
        due.is("MINUTE", x.count(2), 6);
        due.is("undo(), forgotten", x.undo(), STATE);
        due.is("MINUTE stays", x.count(2), 6);
        due.is("minutes(1)", x.minutes(1), 11);
        due.is("undo() of it", x.undo(), 0);
    }

    private static void whatMakesNoAct() {
        NearlySaid x = Due.with(THREE);
        x.talk(9, 9);
        x.hush(0, 0);
        x.bars(0, 99);
        x.letDown(0);
        x.minutes(0);
        x.over();
        x.hushes(0, 9, 0);
        x.drawn(9, 9, 0);
        x.ask(0, 0);
        x.image(0);
        due.is("ACTS", x.count(6), 0);
    }
}
