import java.util.function.ToLongFunction;

/** What is refused, or found, changes nothing but status(); what is foretold changes nothing. */
public final class RefusedTest {
    private static final int BAD = NearlySaid.BAD, STATE = NearlySaid.STATE, FULL = NearlySaid.FULL;
    private static final int NULL = -1000011, PLACE = -1000012, KIND = -1000013, SIZE = -1000014, STORE = -1000015;
    private static final int MAX = Integer.MAX_VALUE, MIN = Integer.MIN_VALUE;
    private static final Due due = new Due("RefusedTest");
    private static final String before = Seen.of(Standing.made());

    public static void main(String[] args) {
        byState();
        byFull();
        byNull();
        byPlace();
        byTheOtherFindings();
        theFirstThatFits();
        faultyTexts();
        foretold();
        lookedAt();
        due.end();
    }

    private static void refused(String call, ToLongFunction<NearlySaid> it, long want) {
        NearlySaid x = Standing.made();
        due.is(call, it.applyAsLong(x), want);
        due.is("status() behind " + call, x.status(), Standing.STATUS);
        due.same(call, Seen.of(x), before);
    }

    private static void found(String call, ToLongFunction<NearlySaid> it, int want) {
        NearlySaid x = Standing.made();
        due.is(call, it.applyAsLong(x), want);
        due.is("status() behind " + call, x.status(), -1000010 - want);
        due.same(call, Seen.of(x), before);
    }

    private static void byState() {
        due.about("STATE");
        refused("hush of one that is", x -> x.hush(2, 1), STATE);
        refused("hush no more of one that is not", x -> x.hush(1, 0), STATE);
        refused("restore of none", x -> x.restore(1), STATE);
        NearlySaid x = Standing.made();
        NearlySaid twin = Standing.made();
        x.restore(0);
        twin.restore(0);
        due.is("undo of none", x.undo(), STATE);
        due.same("undo of none", Seen.of(x), Seen.of(twin));
        x = new NearlySaid();
        due.is("over, no STREET", x.over(), STATE);
        due.is("dry, no STREET", x.dry(), STATE);
        due.is("undo, no STREET", x.undo(), STATE);
        due.is("image, no STREET", x.image(1), STATE);
        due.is("restore behind it", x.restore(1), STATE);
        due.same("STATE", Seen.of(x), Seen.of(new NearlySaid()));
    }

    private static NearlySaid atMinute(int minute) {
        NearlySaid x = Standing.made();
        for (int left = minute - x.count(2); left > 0; left -= Math.min(24, left)) {
            x.minutes(Math.min(24, left));
        }
        return x;
    }

    private static void byFull() {
        due.about("FULL: MINUTE would be above 999");
        for (int n = 1; n <= 24; n++) {
            NearlySaid x = atMinute(1000 - n);
            due.is("minutes(" + n + ")", x.minutes(n), FULL);
            due.is("status() behind it", x.status(), Standing.STATUS);
            due.same("minutes(" + n + ")", Seen.of(x), Seen.of(atMinute(1000 - n)));
            x = atMinute(999 - n);
            due.isNot("minutes(" + n + ") up to 999", x.minutes(n), FULL);
            due.is("MINUTE", x.count(2), 999);
        }
        due.about("FULL: the tape");
        NearlySaid x = new NearlySaid();
        for (int i = 1; i <= 120; i++) {
            due.is("byte " + i, x.feed('g'), i);
        }
        for (int again = 0; again < 3; again++) {
            due.is("byte 121", x.feed('g'), FULL);
            due.is("count(7)", x.count(7), 120);
        }
        due.is("status()", x.status(), 0);
        due.is("street()", x.street(), -1000101);
    }

    private static void byNull() {
        due.about("NULL (a ROW that is missing)");
        for (int r = 2; r <= 7; r++) {
            int row = r;
            found("set of " + r, x -> x.set(row, 0, 1), NULL);
            found("copy from " + r, x -> x.copy(row, 0, 0, 0, 1), NULL);
            found("copy to " + r, x -> x.copy(0, 0, row, 0, 1), NULL);
            found("copy of " + r, x -> x.copy(row, 0, row, 0, 0), NULL);
            found("drop of " + r, x -> x.drop(row), NULL);
            found("who by " + r, x -> x.who(0, 0, 0, row, 0, 1), NULL);
            found("silent by " + r, x -> x.silent(0, row, 0, 1), NULL);
        }
    }

    private static void byPlace() {
        due.about("PLACE (no such place of a ROW)");
        for (int i : new int[] {-1, 14, 15, 40, MAX, MIN}) {
            found("set at " + i, x -> x.set(0, i, 1), PLACE);
            found("who from " + i, x -> x.who(0, 0, 0, 0, i, 1), PLACE);
            found("silent from " + i, x -> x.silent(0, 0, i, 1), PLACE);
        }
        found("who, beyond the end by its last", x -> x.who(0, 0, 0, 0, 3, 12), PLACE);
        found("silent, beyond the end by its last", x -> x.silent(0, 0, 3, 12), PLACE);
        found("who, a sum that wraps", x -> x.who(0, 0, 0, 0, MAX, 12), PLACE);
        found("silent, a sum that wraps", x -> x.silent(0, 0, MAX, 12), PLACE);
        for (int i : new int[] {-1, 14, MAX, MIN}) {
            found("copy from " + i, x -> x.copy(0, i, 0, 0, 1), PLACE);
            found("copy to " + i, x -> x.copy(0, 0, 0, i, 1), PLACE);
        }
        for (int n : new int[] {-1, 15, MAX, MIN}) {
            found("copy of " + n, x -> x.copy(0, 0, 0, 0, n), PLACE);
            found("copy of " + n + " from 1", x -> x.copy(0, 1, 0, 0, n), PLACE);
            found("copy of " + n + " to 1", x -> x.copy(0, 0, 0, 1, n), PLACE);
        }
        found("copy of 13 from 2", x -> x.copy(0, 2, 0, 0, 13), PLACE);
        found("copy of 13 to 2", x -> x.copy(0, 0, 0, 2, 13), PLACE);
        found("copy of none from 15", x -> x.copy(0, 15, 0, 0, 0), PLACE);
        found("copy of none to 15", x -> x.copy(0, 0, 0, 15, 0), PLACE);
        found("copy of -1 from the end", x -> x.copy(0, 14, 0, 14, -1), PLACE);
    }

    private static void byTheOtherFindings() {
        due.about("SIZE (fewer than none)");
        for (int n : new int[] {-1, -40, MIN}) {
            found("row(0, 2, " + n + ")", x -> x.row(0, 2, n), SIZE);
            found("row(7, 0, " + n + ")", x -> x.row(7, 0, n), SIZE);
        }
        due.about("STORE (ROWS of two LANES)");
        found("ints to bytes", x -> x.copy(0, 0, 1, 0, 1), STORE);
        found("bytes to ints", x -> x.copy(1, 0, 0, 0, 1), STORE);
        found("none of them", x -> x.copy(0, 0, 1, 0, 0), STORE);
        due.about("KIND (a HOUSE that is not that)");
        found("a merry one as a hard one", x -> x.as(0, 2), KIND);
        found("a kindly one as a merry one", x -> x.as(1, 3), KIND);
        found("a silent one as a nervous one", x -> x.as(2, 5), KIND);
        found("a silent one as a kindly one", x -> x.as(2, 1), KIND);
    }

    private static void theFirstThatFits() {
        due.about("the first of these that fits");
        refused("BAD ahead of STATE: hush", x -> x.hush(2, 2), BAD);
        refused("BAD ahead of STATE: restore", x -> x.restore(2), BAD);
        refused("BAD ahead of SIZE: ROW", x -> x.row(8, 0, -1), BAD);
        refused("BAD ahead of SIZE: LANE", x -> x.row(0, 3, -1), BAD);
        refused("BAD ahead of NULL: copy to 8", x -> x.copy(7, 0, 8, 0, 0), BAD);
        refused("BAD ahead of NULL: copy from 8", x -> x.copy(8, 0, 7, 0, 0), BAD);
        refused("BAD ahead of NULL: who", x -> x.who(3, 0, 0, 7, 0, 1), BAD);
        refused("BAD ahead of PLACE: silent", x -> x.silent(0, 0, -1, 13), BAD);
        refused("BAD ahead of KIND: as", x -> x.as(3, 3), BAD);
        found("NULL ahead of PLACE: set", x -> x.set(7, -1, 0), NULL);
        found("NULL ahead of PLACE: copy", x -> x.copy(7, -1, 0, -1, -1), NULL);
        found("NULL ahead of PLACE: copy to it", x -> x.copy(0, -1, 7, -1, -1), NULL);
        found("NULL ahead of PLACE: who", x -> x.who(0, 0, 0, 7, -1, 1), NULL);
        found("NULL ahead of PLACE: silent", x -> x.silent(0, 7, -1, 1), NULL);
        found("STORE ahead of PLACE", x -> x.copy(0, -1, 1, -1, -1), STORE);
        NearlySaid x = atMinute(999);
        due.is("BAD ahead of FULL: minutes", x.minutes(25), BAD);
        due.is("BAD ahead of FULL: minutes of 0", x.minutes(0), BAD);
        x = new NearlySaid();
        for (int i = 0; i < 120; i++) {
            x.feed(0);
        }
        due.is("BAD ahead of FULL: feed", x.feed(256), BAD);
        due.is("BAD ahead of FULL: feed of less", x.feed(-1), BAD);
    }

    /** The fault and the tape are other then, so the twin has had another text with the same fault. */
    private static void faultyTexts() {
        due.about("a FAULT: all stays");
        NearlySaid twin = Standing.made();
        Due.read(twin, "g");
        String stays = Seen.of(twin);
        String good = Standing.TEXT;
        for (int length = 0; length < good.length(); length++) {
            if (length == 0 || good.charAt(length - 1) != ';' || length < 6) {
                NearlySaid x = Standing.made();
                x.street();
                due.is("the end at " + length, Due.read(x, good.substring(0, length)), -1000100 - length);
                due.is("status()", x.status(), Standing.STATUS);
                due.same("the end at " + length, Seen.of(x), stays);
            }
        }
    }

    private static void unchanged(String call, ToLongFunction<NearlySaid> it) {
        NearlySaid x = Standing.made();
        due.isNot(call, it.applyAsLong(x), BAD);
        due.same(call, Seen.of(x), before);
    }

    private static void foretold() {
        due.about("FORETOLD (nothing changes)");
        unchanged("ahead", x -> x.ahead(1, 99));
        unchanged("pond", x -> x.pond(99, 0));
        unchanged("over", x -> x.over());
        unchanged("full", x -> x.full(0));
        unchanged("most", x -> x.most(1, 99, 0));
        unchanged("hushes", x -> x.hushes(1, 40, 1));
        unchanged("spares", x -> x.spares(40, 1));
        unchanged("catches", x -> x.catches(40, 0));
        unchanged("from", x -> x.from(0, 40));
        unchanged("loud", x -> x.loud(0, 99));
        unchanged("dry", x -> x.dry());
        unchanged("lag", x -> x.lag(0));
        unchanged("who, KINDS", x -> x.who(0, 0, 1, 0, 0, 12));
        unchanged("who, TALKS", x -> x.who(0, 1, 1, 0, 0, 12));
        unchanged("who, KEPT", x -> x.who(0, 2, 1, 0, 0, 12));
        unchanged("silent", x -> x.silent(1, 0, 0, 12));
        unchanged("hushed", x -> x.hushed(40, 5, 0));
        unchanged("drawn", x -> x.drawn(60, 9, 0));
    }

    private static void lookedAt() {
        due.about("what only tells");
        unchanged("house", x -> x.house(1, 5));
        unchanged("stand", x -> x.stand(4));
        unchanged("fault", x -> x.fault());
        unchanged("kind", x -> x.kind(1));
        unchanged("as", x -> x.as(1, 1));
        unchanged("trace", x -> x.trace(0));
        unchanged("count", x -> x.count(4));
        unchanged("status", x -> x.status());
        unchanged("ask that was asked", x -> x.ask(1, 0));
        unchanged("copy of none", x -> x.copy(0, 14, 0, 14, 0));
        unchanged("copy upon itself", x -> x.copy(0, 0, 0, 0, 14));
    }
}
