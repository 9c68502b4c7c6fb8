/** What is done, at its edges: each sentence of paragraph 2 and of promises 9 to 16 that names one, with its own test. */
public final class EdgesOfDoneTest {
    private static final int BAD = NearlySaid.BAD, STATE = NearlySaid.STATE, FULL = NearlySaid.FULL;
    private static final String SORTS = "khmsn";
    private static final Due due = new Due("EdgesOfDoneTest");

    public static void main(String[] args) {
        shedsByTalkAndKeeps();
        shedsInEvenMinutes();
        shedsNothingHushed();
        shedsAreCutTowardsZero();
        stepAtMostFlows();
        byWhatIsSoAhead();
        oneIsCaught();
        nothingFlowsNothingIsCaught();
        barsOfTheFirstHouse();
        barsOfTheLastHouse();
        noBars();
        gutterIsFull();
        gutterIsFullByWhatFlows();
        pondIsNeverFull();
        minuteIsOneMore();
        talkFromEndToEnd();
        hushedAsBits();
        barsAreOthers();
        letDownToZero();
        actsAreUndone();
        actsThatAreKept();
        oldestIsForgotten();
        actsGoRound();
        manyMinutesAreManyActs();
        standsAtFirst();
        plankIsNotOver();
        due.end();
    }

    private static void gutters(NearlySaid x, int pond, int... want) {
        due.is("the pond at " + x.count(2), x.stand(0), pond);
        for (int h = 0; h < want.length; h++) {
            due.is("gutter " + h + " at " + x.count(2), x.house(h, 3), want[h]);
        }
    }

    private static int dueSheds(char sort, int talk, int keeps) {
        switch (sort) {
            case 'k': return talk / keeps;
            case 'h': return 2 * (talk / keeps);
            case 'm': return talk == 0 ? 0 : talk / keeps + 1;
            default: return keeps;
        }
    }

    private static void shedsByTalkAndKeeps() {
        due.about("A house SHEDS, in a MINUTE");
        for (int s = 0; s < 5; s++) {
            for (int keeps = 1; keeps <= 9; keeps++) {
                NearlySaid x = Due.with("g9,0;" + SORTS.charAt(s) + "0," + keeps + ",0;");
                for (int talk = 0; talk <= 20; talk++) {
                    x.talk(0, talk);
                    int want = dueSheds(SORTS.charAt(s), talk, keeps);
                    due.is(SORTS.charAt(s) + " " + talk + " by " + keeps, x.house(0, 5), want);
                    due.is("it comes to its gutter", x.ahead(0, 1), want);
                }
            }
        }
    }

    private static void shedsInEvenMinutes() {
        due.about("a nervous one so, but only in MINUTES that are even");
        NearlySaid x = Due.with("g9,0;n20,7,0;");
        for (int minute = 0; minute < 60; minute++) {
            due.is("SHEDS at " + minute, x.house(0, 5), minute % 2 == 0 ? 7 : 0);
            x.minutes(1);
            due.is("its gutter behind " + minute, x.house(0, 3), minute % 2 == 0 ? 7 : 0);
        }
        for (int i = 0; i < 39; i++) {
            x.minutes(24);
        }
        x.minutes(2);
        due.is("MINUTE", x.count(2), 998);
        due.is("SHEDS at 998", x.house(0, 5), 7);
        x.minutes(1);
        due.is("SHEDS at 999", x.house(0, 5), 0);
        due.is("what is ahead goes on", x.ahead(0, 2), 7);
    }

    private static void shedsNothingHushed() {
        due.about("Who is hushed SHEDS nothing");
        for (int s = 0; s < 5; s++) {
            NearlySaid x = Due.with("g9,0;" + SORTS.charAt(s) + "20,2,0;");
            x.hush(0, 1);
            due.is("SHEDS", x.house(0, 5), 0);
            x.minutes(2);
            gutters(x, 0, 0);
            x.hush(0, 0);
            due.is("SHEDS again", x.house(0, 5), dueSheds(SORTS.charAt(s), 20, 2));
        }
    }

    private static void shedsAreCutTowardsZero() {
        due.about("All that is divided is cut towards 0");
        NearlySaid x = Due.with("g9,0;k8,9,0;k9,9,0;k17,9,0;k18,9,0;h8,9,0;h17,9,0;m8,9,0;");
        int[] want = {0, 1, 1, 2, 0, 2, 1};
        for (int h = 0; h < 7; h++) {
            due.is("SHEDS of " + h, x.house(h, 5), want[h]);
        }
    }

    private static void stepAtMostFlows() {
        due.about("from each house's gutter STEP at most FLOWS");
        for (int step = 1; step <= 9; step++) {
            for (int keeps = 1; keeps <= 9; keeps++) {
                NearlySaid x = Due.with("g" + step + ",0;s0," + keeps + ",0;");
                x.minutes(1);
                gutters(x, 0, keeps);
                x.minutes(1);
                int flows = Math.min(step, keeps);
                gutters(x, flows, keeps - flows + keeps);
            }
        }
    }

    private static void byWhatIsSoAhead() {
        due.about("A MINUTE, by what is so ahead of it");
        NearlySaid x = Due.with("g9,0;s0,1,0;k0,1,0;k0,1,0;k0,1,0;k0,1,0;k0,1,0;k0,1,0;");
        x.minutes(1);
        x.hush(0, 1);
        for (int at = 0; at < 7; at++) {
            for (int h = 0; h < 7; h++) {
                due.is("gutter " + h + " behind " + (at + 1), x.house(h, 3), h == at ? 1 : 0);
            }
            due.is("the pond behind " + (at + 1), x.stand(0), 0);
            x.minutes(1);
        }
        due.is("the pond behind 8", x.stand(0), 1);
        due.is("all gutters behind 8", x.stand(4), 0);
    }

    private static void oneIsCaught() {
        due.about("1 is CAUGHT at these, if less is than BARS; the rest comes to the gutter");
        NearlySaid x = Due.with("g1,0;s0,1,0;k0,1,2;");
        int[][] want = {{0, 0}, {0, 1}, {0, 2}, {1, 2}, {1, 2}};
        for (int[] w : want) {
            x.minutes(1);
            due.is("a flow of 1: the gutter", x.house(1, 3), w[0]);
            due.is("a flow of 1: CAUGHT", x.house(1, 4), w[1]);
        }
        x = Due.with("g9,0;s0,9,0;k0,1,9;");
        x.minutes(1);
        for (int m = 1; m <= 12; m++) {
            x.minutes(1);
            due.is("a flow of 9: the gutter behind " + m, x.house(1, 3), m <= 9 ? 8 : 9);
            due.is("a flow of 9: CAUGHT behind " + m, x.house(1, 4), Math.min(9, m));
        }
    }

    private static void nothingFlowsNothingIsCaught() {
        due.about("Of what FLOWS to a gutter with bars");
        NearlySaid x = Due.with("g1,0;k0,1,0;s0,5,9;");
        x.minutes(9);
        due.is("what is shed there is not CAUGHT", x.house(1, 4), 0);
        x = Due.with("g9,0;n0,5,0;k0,1,9;");
        x.minutes(2);
        due.is("CAUGHT by the first flow", x.house(1, 4), 1);
        x.minutes(1);
        due.is("CAUGHT, nothing flowed", x.house(1, 4), 1);
        x.minutes(1);
        due.is("CAUGHT by the second flow", x.house(1, 4), 2);
    }

    private static void barsOfTheFirstHouse() {
        due.about("nothing FLOWS to the first one");
        NearlySaid x = Due.with("g9,0;s0,5,9;k0,1,0;");
        x.minutes(20);
        due.is("CAUGHT", x.house(0, 4), 0);
        due.is("CAUGHT, all together", x.stand(3), 0);
    }

    private static void barsOfTheLastHouse() {
        due.about("(not the pond)");
        NearlySaid x = Due.with("g9,0;s0,5,9;");
        x.minutes(5);
        gutters(x, 20, 5);
        due.is("CAUGHT of an only house", x.stand(3), 0);
        x = Due.with("g9,0;s0,5,0;k0,1,3;");
        x.minutes(7);
        // 5 flow down five times, 3 are caught, and the last is in the gutter yet.
        gutters(x, 5 * 5 - 3, 5, 5);
        due.is("CAUGHT of the last", x.house(1, 4), 3);
    }

    private static void noBars() {
        due.about("0 no bars");
        NearlySaid x = Due.with("g9,0;s0,5,0;k0,1,0;k0,1,0;");
        x.minutes(9);
        due.is("CAUGHT", x.stand(3), 0);
        due.is("full(0)", x.full(0), NearlySaid.NONE);
        gutters(x, 5 * 6, 5, 5, 5);
    }

    private static void gutterIsFull() {
        due.about("A gutter holds 999 at most; what is more is lost");
        // 40 come in each MINUTE and 1 flows: 976 behind 25 of them.
        NearlySaid x = Due.with("g1,0;h20,1,0;");
        x.minutes(24);
        x.minutes(1);
        gutters(x, 24, 976);
        x.talk(0, 12);
        due.is("just full", x.ahead(0, 1), 999);
        x.talk(0, 11);
        due.is("not full", x.ahead(0, 1), 997);
        x.talk(0, 13);
        due.is("more than full", x.ahead(0, 1), 999);
        x.talk(0, 20);
        x.minutes(1);
        gutters(x, 25, 999);
        x.minutes(1);
        gutters(x, 26, 999);
        x.hush(0, 1);
        x.minutes(1);
        gutters(x, 27, 998);
        due.is("what was lost is lost", x.ahead(0, 99), 998 - 99);
    }

    private static void gutterIsFullByWhatFlows() {
        due.about("what is more is lost, of what FLOWS, too");
        // As much flows in as out, and 40 come in each MINUTE: 1000 would be there behind 25.
        NearlySaid x = Due.with("g9,0;s0,9,0;h20,1,0;");
        x.minutes(24);
        due.is("its gutter", x.house(1, 3), 40 * 24);
        x.minutes(1);
        due.is("full", x.house(1, 3), 999);
        x.hush(1, 1);
        x.minutes(1);
        due.is("as much comes as goes", x.house(1, 3), 999);
        due.is("the one above is as it was", x.house(0, 3), 9);
    }

    /** MINUTE ends at 999 and STEP is 9 at most, so the pond's 9999 are never reached; nothing is lost before. */
    private static void pondIsNeverFull() {
        due.about("the pond 9999");
        NearlySaid x = Due.with("g9,99;s0,9,0;");
        for (int i = 0; i < 41; i++) {
            x.minutes(24);
        }
        x.minutes(15);
        due.is("the pond", x.stand(0), 9 * 998);
        due.is("the most that can be ahead", x.pond(99, 0), 9 * (998 + 99));
    }

    private static void minuteIsOneMore() {
        due.about("MINUTE is 1 more");
        NearlySaid x = Due.with("g1,0;k0,1,0;");
        int minute = 0;
        for (int n = 1; n <= 24; n++) {
            x.minutes(n);
            minute += n;
            due.is("MINUTE", x.count(2), minute);
        }
        due.about("FULL: MINUTE would be above 999");
        for (int i = 0; i < 29; i++) {
            x.minutes(24);
        }
        due.is("MINUTE", x.count(2), 996);
        due.is("minutes(4)", x.minutes(4), FULL);
        due.is("minutes(24)", x.minutes(24), FULL);
        due.is("MINUTE yet", x.count(2), 996);
        due.is("minutes(3)", x.minutes(3), 0);
        due.is("MINUTE, the last", x.count(2), 999);
        due.is("minutes(1)", x.minutes(1), FULL);
        due.is("other ACTS go on", x.talk(0, 5), 0);
        x.undo();
        x.undo();
        due.is("minutes(1) behind undo()", x.minutes(1), 0);
        due.is("minutes(1), none more", x.minutes(1), FULL);
    }

    private static void talkFromEndToEnd() {
        due.about("TALK (0 to 20): what it was");
        NearlySaid x = Due.with("g9,0;k7,1,0;k3,1,0;");
        due.is("talk(0, 0)", x.talk(0, 0), 7);
        due.is("talk(0, 20)", x.talk(0, 20), 0);
        due.is("talk(0, 20) again", x.talk(0, 20), 20);
        due.is("talk(0, 21)", x.talk(0, 21), BAD);
        due.is("talk(0, -1)", x.talk(0, -1), BAD);
        due.is("it is so", x.house(0, 0), 20);
        due.is("of the other one", x.talk(1, 1), 3);
        due.is("the one beyond", x.talk(2, 1), BAD);
    }

    private static void hushedAsBits() {
        due.about("Hushed (1), or no more (0): which are (bits)");
        NearlySaid x = Due.with("g9,0;k1,1,0;k1,1,0;k1,1,0;k1,1,0;k1,1,0;k1,1,0;k1,1,0;");
        int bits = 0;
        for (int h = 6; h >= 0; h--) {
            bits |= 1 << h;
            due.is("hush(" + h + ", 1)", x.hush(h, 1), bits);
            due.is("it is so", x.hush(h, 1), STATE);
        }
        due.is("all are", x.stand(2), 127);
        for (int h = 0; h < 7; h++) {
            bits &= ~(1 << h);
            due.is("hush(" + h + ", 0)", x.hush(h, 0), bits);
            due.is("it is so", x.hush(h, 0), STATE);
        }
        due.is("none is", x.count(5), 0);
        due.is("hush(7, 1)", x.hush(7, 1), BAD);
    }

    private static void barsAreOthers() {
        due.about("bars are others (0 to 9; nothing is CAUGHT there then)");
        for (int n = 0; n <= 9; n++) {
            NearlySaid x = Due.with("g9,0;s0,5,0;k0,1,4;");
            x.minutes(4);
            due.is("what was CAUGHT there", x.bars(1, n), 3);
            due.is("BARS", x.house(1, 2), n);
            due.is("CAUGHT", x.house(1, 4), 0);
            due.is("the gutter is as it was", x.house(1, 3), 4);
            x.minutes(12);
            due.is("CAUGHT anew", x.house(1, 4), n);
        }
    }

    private static void letDownToZero() {
        due.about("the pond is let down (n less, 0 at least)");
        for (int n = 1; n <= 99; n++) {
            NearlySaid x = Due.with("g5,0;s0,5,0;");
            x.minutes(11);
            due.is("letDown(" + n + ") of 50", x.letDown(n), n < 50 ? 50 - n : 0);
            due.is("the pond", x.stand(0), n < 50 ? 50 - n : 0);
            due.is("the gutter stays", x.house(0, 3), 5);
        }
        NearlySaid x = Due.with("g5,0;s0,5,0;");
        due.is("letDown(1) of none", x.letDown(1), 0);
    }

    private static void actsAreUndone() {
        due.about("each can be undone, the latest first");
        NearlySaid x = Due.with("g2,3;s4,3,0;k8,2,2;");
        x.minutes(4);
        x.talk(1, 20);
        x.hush(0, 1);
        x.bars(1, 0);
        x.letDown(1);
        x.hush(0, 0);
        due.is("hush, no more", x.undo(), 8);
        due.is("it is hushed again", x.stand(2), 1);
        int low = x.stand(0);
        due.is("letDown", x.undo(), 7);
        due.is("the pond", x.stand(0), low + 1);
        due.is("bars", x.undo(), 6);
        due.is("BARS", x.house(1, 2), 2);
        due.is("CAUGHT", x.house(1, 4), 2);
        due.is("hush", x.undo(), 5);
        due.is("nobody is", x.stand(2), 0);
        due.is("talk", x.undo(), 4);
        due.is("TALK", x.house(1, 0), 8);
        for (int left = 3; left >= 0; left--) {
            due.is("a MINUTE", x.undo(), left);
            due.is("MINUTE", x.count(2), left);
        }
        gutters(x, 0, 0, 0);
        due.is("CAUGHT", x.stand(3), 0);
        due.is("none more", x.undo(), STATE);
    }

    private static void actsThatAreKept() {
        due.about("ACTS (24 at most are kept)");
        NearlySaid x = Due.with("g1,0;k0,1,0;");
        for (int act = 1; act <= 24; act++) {
            x.talk(0, act % 21);
            due.is("ACTS", x.count(6), act);
        }
        for (int left = 23; left >= 0; left--) {
            due.is("undo()", x.undo(), left);
            due.is("TALK", x.house(0, 0), left % 21);
        }
        due.is("none more", x.undo(), STATE);
        due.is("TALK as told", x.house(0, 0), 0);
    }

    private static void oldestIsForgotten() {
        due.about("of more the oldest is forgotten");
        for (int more = 1; more <= 30; more++) {
            NearlySaid x = Due.with("g1,0;k0,1,0;");
            for (int act = 1; act <= 24 + more; act++) {
                x.talk(0, act % 21);
            }
            due.is("ACTS", x.count(6), 24);
            for (int left = 23; left >= 0; left--) {
                due.is("undo()", x.undo(), left);
                due.is("TALK", x.house(0, 0), (left + more) % 21);
            }
            due.is("none more", x.undo(), STATE);
        }
    }

    private static void actsGoRound() {
        due.about("ACTS behind some that were undone");
        NearlySaid x = Due.with("g1,0;s0,1,0;");
        x.minutes(24);
        x.minutes(6);
        for (int i = 0; i < 10; i++) {
            x.undo();
        }
        due.is("MINUTE", x.count(2), 20);
        x.minutes(5);
        due.is("ACTS", x.count(6), 19);
        for (int left = 18; left >= 0; left--) {
            due.is("undo()", x.undo(), left);
            due.is("MINUTE", x.count(2), 6 + left);
        }
        due.is("none more", x.undo(), STATE);
    }

    private static void manyMinutesAreManyActs() {
        due.about("n MINUTES (1 to 24), an ACT each");
        for (int n = 1; n <= 24; n++) {
            NearlySaid x = Due.with("g2,0;s0,2,0;");
            x.talk(0, 3);
            due.is("what is in the pond", x.minutes(n), 2 * (n - 1));
            due.is("ACTS", x.count(6), Math.min(24, n + 1));
            x.undo();
            due.is("MINUTE", x.count(2), n - 1);
        }
    }

    private static void standsAtFirst() {
        due.about("all gutters, bars, the pond are empty");
        NearlySaid x = Due.with("g1,0;k5,1,9;s5,1,9;");
        for (int what = 0; what <= 4; what++) {
            due.is("stand(" + what + ")", x.stand(what), 0);
        }
        due.is("dry()", x.dry(), 3);
    }

    private static void plankIsNotOver() {
        due.about("whether that is more than PLANK");
        for (int plank = 0; plank <= 99; plank++) {
            NearlySaid x = Due.with("g1," + plank + ";s0,1,0;");
            for (int left = plank + 1; left > 0; left -= Math.min(24, left)) {
                x.minutes(Math.min(24, left));
            }
            due.is("as much as PLANK", x.stand(0), plank);
            due.is("it is not over", x.stand(1), 0);
            x.minutes(1);
            due.is("it is over", x.stand(1), 1);
            x.letDown(1);
            due.is("no more", x.stand(1), 0);
        }
    }
}
