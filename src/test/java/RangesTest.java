import java.util.ArrayList;
import java.util.List;

/**
 * Each number that a call takes: the least and the greatest are no BAD, one less, one more and the farthest are, and
 * then nothing changes. Without a STREET what the document tells comes first: BAD, or STATE.
 */
public final class RangesTest {
    private static final int BAD = NearlySaid.BAD, STATE = NearlySaid.STATE;
    private static final int LAST = Standing.HOUSES - 1;
    private static final Due due = new Due("RangesTest");

    interface Call {
        long of(NearlySaid x, int v);
    }

    /** What a call answers, if there is no STREET. */
    enum Bare { AS_EVER, BAD_ALWAYS, STATE_FIRST, BAD_THEN_STATE }

    record Range(String name, int least, int greatest, Bare bare, Call call) {
    }

    private static final List<Range> ranges = new ArrayList<>();

    public static void main(String[] args) {
        rows();
        told();
        done();
        foretoldOfAHouse();
        foretoldOfAStreet();
        asked();
        String before = Seen.of(Standing.made());
        itemsOfARow(before);
        for (Range r : ranges) {
            due.about(r.name);
            within(r);
            beyond(r, before);
            withoutStreet(r);
        }
        due.end();
    }

    private static void range(String name, int least, int greatest, Bare bare, Call call) {
        ranges.add(new Range(name, least, greatest, bare, call));
    }

    private static void rows() {
        range("row: ROW", 0, 7, Bare.AS_EVER, (x, v) -> x.row(v, 0, 3));
        range("row: LANE", 0, 2, Bare.AS_EVER, (x, v) -> x.row(0, v, 3));
        range("row: LANE, fewer than none", 0, 2, Bare.AS_EVER, (x, v) -> x.row(0, v, -1));
        range("row: ROW, fewer than none", 0, 7, Bare.AS_EVER, (x, v) -> x.row(v, 0, -1));
        range("set: ROW", 0, 7, Bare.AS_EVER, (x, v) -> x.set(v, 0, 1));
        range("copy: a", 0, 7, Bare.AS_EVER, (x, v) -> x.copy(v, 0, 0, 0, 1));
        range("copy: b", 0, 7, Bare.AS_EVER, (x, v) -> x.copy(0, 0, v, 0, 1));
        range("drop: ROW", 0, 7, Bare.AS_EVER, (x, v) -> x.drop(v));
    }

    /** Fewer than none are no BAD, but found; so this is no range with two ends. */
    private static void itemsOfARow(String before) {
        due.about("row: n above 40");
        for (int n = 0; n <= 40; n++) {
            NearlySaid x = Standing.made();
            due.is("row(0, 2, n)", x.row(0, 2, n), n);
            due.is("how many it has", x.drop(0), n);
        }
        for (int n : new int[] {41, 42, 256, 1 << 16, Integer.MAX_VALUE}) {
            NearlySaid x = Standing.made();
            due.is("row(0, 2, n)", x.row(0, 2, n), BAD);
            due.is("status() behind " + n, x.status(), Standing.STATUS);
            due.same("with " + n, Seen.of(x), before);
        }
    }

    private static void told() {
        range("feed", 0, 255, Bare.AS_EVER, (x, v) -> x.feed(v));
    }

    private static void done() {
        range("minutes", 1, 24, Bare.STATE_FIRST, (x, v) -> x.minutes(v));
        range("talk: house", 0, LAST, Bare.BAD_ALWAYS, (x, v) -> x.talk(v, 1));
        range("talk: n", 0, 20, Bare.BAD_ALWAYS, (x, v) -> x.talk(0, v));
        range("hush: house", 0, LAST, Bare.BAD_ALWAYS, (x, v) -> x.hush(v, 1));
        range("hush: on", 0, 1, Bare.BAD_ALWAYS, (x, v) -> x.hush(0, v));
        range("bars: house", 0, LAST, Bare.BAD_ALWAYS, (x, v) -> x.bars(v, 1));
        range("bars: n", 0, 9, Bare.BAD_ALWAYS, (x, v) -> x.bars(0, v));
        range("letDown", 1, 99, Bare.STATE_FIRST, (x, v) -> x.letDown(v));
        range("house: house", 0, LAST, Bare.BAD_ALWAYS, (x, v) -> x.house(v, 0));
        range("house: what", 0, 6, Bare.BAD_ALWAYS, (x, v) -> x.house(0, v));
        range("stand", 0, 4, Bare.STATE_FIRST, (x, v) -> x.stand(v));
    }

    private static void foretoldOfAHouse() {
        range("ahead: house", 0, LAST, Bare.BAD_ALWAYS, (x, v) -> x.ahead(v, 0));
        range("ahead: n", 0, 99, Bare.BAD_ALWAYS, (x, v) -> x.ahead(0, v));
        range("most: house", 0, LAST, Bare.BAD_ALWAYS, (x, v) -> x.most(v, 0, 0));
        range("most: n", 0, 99, Bare.BAD_ALWAYS, (x, v) -> x.most(0, v, 0));
        range("most: what", 0, 1, Bare.BAD_ALWAYS, (x, v) -> x.most(0, 0, v));
        range("hushes: house", 0, LAST, Bare.BAD_ALWAYS, (x, v) -> x.hushes(v, 1, 0));
        range("hushes: n", 1, 40, Bare.BAD_ALWAYS, (x, v) -> x.hushes(0, v, 0));
        range("hushes: what", 0, 1, Bare.BAD_ALWAYS, (x, v) -> x.hushes(0, 1, v));
        range("from: house", 0, LAST, Bare.BAD_ALWAYS, (x, v) -> x.from(v, 1));
        range("from: n", 1, 40, Bare.BAD_ALWAYS, (x, v) -> x.from(0, v));
        range("loud: house", 0, LAST, Bare.BAD_ALWAYS, (x, v) -> x.loud(v, 1));
        range("loud: n", 1, 99, Bare.BAD_ALWAYS, (x, v) -> x.loud(0, v));
        range("lag", 0, LAST, Bare.BAD_ALWAYS, (x, v) -> x.lag(v));
        range("who: HOUSE", 0, LAST, Bare.BAD_ALWAYS, (x, v) -> x.who(v, 0, 0, 0, 0, 1));
        range("who: which", 0, 2, Bare.BAD_ALWAYS, (x, v) -> x.who(0, v, 0, 0, 0, 1));
        range("who: OTHER", 0, LAST, Bare.BAD_ALWAYS, (x, v) -> x.who(0, 0, v, 0, 0, 1));
        range("who: ROW", 0, 7, Bare.BAD_ALWAYS, (x, v) -> x.who(0, 0, 0, v, 0, 1));
        range("who: n", 1, 12, Bare.BAD_ALWAYS, (x, v) -> x.who(0, 0, 0, 0, 0, v));
        range("who: n of a missing ROW", 1, 12, Bare.BAD_ALWAYS, (x, v) -> x.who(0, 0, 0, 7, 0, v));
        range("silent: HOUSE", 0, LAST, Bare.BAD_ALWAYS, (x, v) -> x.silent(v, 0, 0, 1));
        range("silent: ROW", 0, 7, Bare.BAD_ALWAYS, (x, v) -> x.silent(0, v, 0, 1));
        range("silent: n", 1, 12, Bare.BAD_ALWAYS, (x, v) -> x.silent(0, 0, 0, v));
        range("silent: n of a missing ROW", 1, 12, Bare.BAD_ALWAYS, (x, v) -> x.silent(0, 7, 0, v));
    }

    private static void foretoldOfAStreet() {
        range("pond: n", 0, 99, Bare.STATE_FIRST, (x, v) -> x.pond(v, 0));
        range("pond: what", 0, 1, Bare.STATE_FIRST, (x, v) -> x.pond(0, v));
        range("full", 0, 1, Bare.STATE_FIRST, (x, v) -> x.full(v));
        range("spares: n", 1, 40, Bare.STATE_FIRST, (x, v) -> x.spares(v, 0));
        range("spares: what", 0, 1, Bare.STATE_FIRST, (x, v) -> x.spares(1, v));
        range("catches: n", 1, 40, Bare.STATE_FIRST, (x, v) -> x.catches(v, 0));
        range("catches: what", 0, 1, Bare.STATE_FIRST, (x, v) -> x.catches(1, v));
        range("hushed: n", 0, 40, Bare.STATE_FIRST, (x, v) -> x.hushed(v, 5, 0));
        range("hushed: p", 0, 10, Bare.STATE_FIRST, (x, v) -> x.hushed(1, v, 0));
        range("hushed: what", 0, 1, Bare.STATE_FIRST, (x, v) -> x.hushed(1, 5, v));
        range("drawn: n", 0, 60, Bare.STATE_FIRST, (x, v) -> x.drawn(v, 1, 0));
        range("drawn: SEED", 1, 999999, Bare.STATE_FIRST, (x, v) -> x.drawn(1, v, 0));
        range("drawn: what", 0, 1, Bare.STATE_FIRST, (x, v) -> x.drawn(1, 1, v));
        range("image", 0, 1, Bare.BAD_THEN_STATE, (x, v) -> x.image(v));
        range("restore", 0, 1, Bare.BAD_THEN_STATE, (x, v) -> x.restore(v));
    }

    private static void asked() {
        range("kind", 0, LAST, Bare.BAD_ALWAYS, (x, v) -> x.kind(v));
        range("as: one", 0, LAST, Bare.BAD_ALWAYS, (x, v) -> x.as(v, 0));
        range("as: KIND", 0, 5, Bare.BAD_ALWAYS, (x, v) -> x.as(0, v));
        range("ask: one", 0, LAST, Bare.BAD_ALWAYS, (x, v) -> x.ask(v, 0));
        range("ask: what", 0, 1, Bare.BAD_ALWAYS, (x, v) -> x.ask(0, v));
        range("count", 0, 7, Bare.AS_EVER, (x, v) -> x.count(v));
    }

    private static void within(Range r) {
        int step = Math.max(1, (r.greatest - r.least) / 300);
        for (int v = r.least; v <= r.greatest; v += step) {
            due.isNot("with " + v, r.call.of(Standing.made(), v), BAD);
        }
        due.isNot("with " + r.greatest, r.call.of(Standing.made(), r.greatest), BAD);
    }

    /** One less, one more; the farthest; and those that would be right, were some of their bits cut off. */
    private static int[] outside(Range r) {
        return new int[] {r.least - 1, r.greatest + 1, Integer.MIN_VALUE, Integer.MAX_VALUE,
            r.least + (1 << 20), r.least + (1 << 24), r.least | Integer.MIN_VALUE, -r.greatest - 1};
    }

    private static void beyond(Range r, String before) {
        for (int v : outside(r)) {
            NearlySaid x = Standing.made();
            due.is("with " + v, r.call.of(x, v), BAD);
            due.is("status() behind " + v, x.status(), Standing.STATUS);
            due.same("with " + v, Seen.of(x), before);
        }
    }

    private static void withoutStreet(Range r) {
        for (int v : new int[] {r.least, r.greatest}) {
            long got = r.call.of(new NearlySaid(), v);
            switch (r.bare) {
                case BAD_ALWAYS: due.is("no STREET, " + v, got, BAD); break;
                case AS_EVER: due.is("no STREET, " + v, got == BAD || got == STATE ? 1 : 0, 0); break;
                default: due.is("no STREET, " + v, got, STATE);
            }
        }
        for (int v : outside(r)) {
            long got = r.call.of(new NearlySaid(), v);
            due.is("no STREET, " + v, got, r.bare == Bare.STATE_FIRST ? STATE : BAD);
        }
    }
}
