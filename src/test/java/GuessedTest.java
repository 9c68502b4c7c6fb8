/** Promises 29 to 32: who, silent, hushed, drawn; and 40 (status) for the first two. */
public final class GuessedTest {
    private static final int BAD = NearlySaid.BAD, STATE = NearlySaid.STATE;
    private static final int NULL = -1000011, PLACE = -1000012;
    private static final String THREE = "g2,3;m4,3,0;k8,2,2;s0,1,1;";
    private static final Due due = new Due("GuessedTest");

    public static void main(String[] args) {
        whoByItsOwnGutter();
        whoByAnotherGutter();
        whoIsNervous();
        whoRefused();
        silent();
        silentRefused();
        hushed();
        hushedRefused();
        drawn();
        drawnRefused();
        due.end();
    }

    private static NearlySaid told(String street, int... items) {
        NearlySaid x = Due.with(street);
        x.row(1, 2, items.length);
        for (int i = 0; i < items.length; i++) {
            x.set(1, i, items[i]);
        }
        return x;
    }

    private static void whoByItsOwnGutter() {
        NearlySaid x = told(THREE, 99, 4, 7, 10);
        due.is("KINDS", x.who(1, 0, 1, 1, 1, 3), 1 << 1);
        due.is("TALKS", x.who(1, 1, 1, 1, 1, 3), 1 << 8 | 1 << 9);
        due.is("KEPT", x.who(1, 2, 1, 1, 1, 3), 1 << 2);
        due.is("a row that nothing fits", x.who(1, 0, 1, 1, 0, 1), 0);
        x.hush(1, 1);
        due.is("a hushed one sheds nothing", x.who(1, 0, 1, 1, 1, 3), 0);
        x.set(1, 0, 0);
        due.is("a hushed one may be all", x.who(1, 0, 1, 1, 0, 1), 62);
        due.is("a hushed one may talk all", x.who(1, 1, 1, 1, 0, 1), (1 << 21) - 1);
        due.is("a hushed one may keep all", x.who(1, 2, 1, 1, 0, 1), 1022);
    }

    private static void whoByAnotherGutter() {
        NearlySaid x = told(THREE, 4, 7, 10);
        due.is("KINDS of 0 by 1", x.who(0, 0, 1, 1, 0, 3), 1 << 2 | 1 << 3 | 1 << 4);
        due.is("TALKS of 0 by 1", x.who(0, 1, 1, 1, 0, 3), (1 << 21) - 8);
        due.is("KEPT of 0 by 1", x.who(0, 2, 1, 1, 0, 3), 30);
        due.is("one below does not matter", x.who(2, 0, 1, 1, 0, 3), 62);
        due.is("all talk fits from below", x.who(2, 1, 1, 1, 0, 3), (1 << 21) - 1);
    }

    private static void whoIsNervous() {
        NearlySaid x = told("g9,99;n5,3,0;", 3, 0, 3, 0, 3, 0, 3, 0, 3, 0, 3, 0);
        due.is("KINDS, even", x.who(0, 0, 0, 1, 0, 12), 1 << 5);
        due.is("KEPT, even", x.who(0, 2, 0, 1, 0, 12), 1 << 3);
        due.is("TALKS, whatever", x.who(0, 1, 0, 1, 0, 12), (1 << 21) - 1);
        due.is("KINDS by one minute", x.who(0, 0, 0, 1, 0, 1), 1 << 4 | 1 << 5);
        x.minutes(1);
        due.is("KINDS, odd", x.who(0, 0, 0, 1, 1, 11), 1 << 5);
        due.is("it is as it was", x.kind(0), 5);
        due.is("status()", x.status(), 0);
    }

    private static void whoRefused() {
        due.is("no STREET", new NearlySaid().who(0, 0, 0, 0, 0, 1), BAD);
        NearlySaid x = told(THREE, 4, 7, 10);
        due.is("house", x.who(3, 0, 1, 1, 0, 1), BAD);
        due.is("house below", x.who(-1, 0, 1, 1, 0, 1), BAD);
        due.is("which", x.who(0, 3, 1, 1, 0, 1), BAD);
        due.is("which below", x.who(0, -1, 1, 1, 0, 1), BAD);
        due.is("other", x.who(0, 0, 3, 1, 0, 1), BAD);
        due.is("other below", x.who(0, 0, -1, 1, 0, 1), BAD);
        due.is("row", x.who(0, 0, 1, 8, 0, 1), BAD);
        due.is("row below", x.who(0, 0, 1, -1, 0, 1), BAD);
        due.is("n of 0", x.who(0, 0, 1, 1, 0, 0), BAD);
        due.is("n of 13", x.who(0, 0, 1, 1, 0, 13), BAD);
        due.is("n below 0", x.who(0, 0, 1, 1, 0, -1), BAD);
        due.is("status() behind BAD", x.status(), 0);
        due.is("BAD ahead of NULL", x.who(0, 0, 1, 2, 0, 0), BAD);
        due.is("missing", x.who(0, 0, 1, 2, -1, 1), NULL);
        due.is("status() of NULL", x.status(), 1);
        due.is("i below", x.who(0, 0, 1, 1, -1, 1), PLACE);
        due.is("status() of PLACE", x.status(), 2);
        due.is("beyond", x.who(0, 0, 1, 1, 0, 4), PLACE);
        due.is("beyond by i", x.who(0, 0, 1, 1, 3, 1), PLACE);
        due.is("far beyond", x.who(0, 0, 1, 1, Integer.MAX_VALUE, 12), PLACE);
    }

    private static void silent() {
        NearlySaid x = told(THREE, 4, 7, 10, 0, 1, 2);
        due.is("as it is, by one minute", x.silent(1, 1, 0, 1), 128 + 1 + 4);
        due.is("as it is, by three", x.silent(1, 1, 0, 3), 128 + 4);
        due.is("one is silent", x.silent(1, 1, 3, 2), 2);
        due.is("nobody is", x.silent(1, 1, 5, 1), 0);
        x.hush(1, 1);
        due.is("it is hushed", x.silent(1, 1, 3, 2), 128 + 4);
        due.is("status()", x.status(), 0);
        due.is("hushed as before", x.stand(2), 2);
    }

    private static void silentRefused() {
        due.is("no STREET", new NearlySaid().silent(0, 0, 0, 1), BAD);
        NearlySaid x = told(THREE, 4, 7, 10);
        due.is("house", x.silent(3, 1, 0, 1), BAD);
        due.is("row", x.silent(0, 8, 0, 1), BAD);
        due.is("n of 0", x.silent(0, 1, 0, 0), BAD);
        due.is("n of 13", x.silent(0, 1, 0, 13), BAD);
        due.is("BAD ahead of NULL", x.silent(0, 2, 0, 13), BAD);
        due.is("missing", x.silent(0, 2, 0, 1), NULL);
        due.is("status() of NULL", x.status(), 1);
        due.is("beyond", x.silent(0, 1, 1, 3), PLACE);
        due.is("i below", x.silent(0, 1, -1, 3), PLACE);
        due.is("status() of PLACE", x.status(), 2);
    }

    private static void chance(NearlySaid x, int n, int p, long above, long below) {
        due.is("hushed(" + n + ", " + p + ", 0)", x.hushed(n, p, 0), above);
        due.is("hushed(" + n + ", " + p + ", 1)", x.hushed(n, p, 1), below);
    }

    private static void hushed() {
        NearlySaid x = Due.with(THREE);
        // Over behind 4, if neither 1 nor 2 is hushed; 0 does not matter.
        chance(x, 4, 5, 1, 4);
        chance(x, 4, 2, 16, 25);
        chance(x, 4, 3, 49, 100);
        chance(x, 4, 0, 1, 1);
        chance(x, 4, 10, 0, 1);
        chance(x, 3, 5, 0, 1);
        chance(x, 0, 5, 0, 1);
        x.hush(2, 1);
        chance(x, 4, 5, 0, 1);
        x.hush(2, 0);
        x.hush(0, 1);
        chance(x, 4, 3, 49, 100);
        x.hush(0, 0);
        x.minutes(4);
        chance(x, 0, 7, 1, 1);
        x = Due.with("g9,0;s0,1,0;s0,1,0;s0,1,0;s0,1,0;s0,1,0;s0,1,0;s0,1,0;");
        // Nothing comes only if all seven are hushed.
        chance(x, 9, 3, 10000000 - 2187, 10000000);
    }

    private static void hushedRefused() {
        due.is("no STREET, BAD", new NearlySaid().hushed(-1, 0, 0), STATE);
        NearlySaid x = Due.with(THREE);
        due.is("n below", x.hushed(-1, 5, 0), BAD);
        due.is("n above", x.hushed(41, 5, 0), BAD);
        due.is("p below", x.hushed(1, -1, 0), BAD);
        due.is("p above", x.hushed(1, 11, 0), BAD);
        due.is("what below", x.hushed(1, 5, -1), BAD);
        due.is("what above", x.hushed(1, 5, 2), BAD);
        due.is("n of 40", x.hushed(40, 0, 1), 1);
    }

    private static void drawn() {
        // By seed 1 the draws are 16807, 282475249, 1622650073, 984943658, 1144108930, 470211272:
        // TALK becomes 7, 7, 2, 20, 13, 20, and none is a multiple of 9.
        NearlySaid x = Due.with("g9,9;k0,1,0;");
        int[] pond = {0, 0, 7, 14, 16, 25, 34};
        for (int n = 0; n < pond.length; n++) {
            due.is("drawn(" + n + ", 1, 0)", x.drawn(n, 1, 0), pond[n]);
            due.is("drawn(" + n + ", 1, 1)", x.drawn(n, 1, 1), pond[n]);
        }
        // By seed 9 the first draw is 151263, a multiple of 9: the pond is let down ahead of the minute.
        x.talk(0, 4);
        x.minutes(3);
        due.is("the pond", x.stand(0), 8);
        due.is("drawn(0, 9, 0)", x.drawn(0, 9, 0), 8);
        due.is("drawn(0, 9, 1), of none", x.drawn(0, 9, 1), 0);
        due.is("drawn(1, 9, 0)", x.drawn(1, 9, 0), 7);
        due.is("drawn(1, 9, 1), behind it alone", x.drawn(1, 9, 1), 7);
        x.letDown(7);
        due.is("drawn(1, 9, 0), 0 at least", x.drawn(1, 9, 0), 4);
        // Of two houses: 16807 is odd, so the second one talks; 282475249 too.
        x = Due.with("g9,9;k0,1,0;k0,1,0;");
        due.is("drawn(2, 1, 0) of two", x.drawn(2, 1, 0), 7);
        due.is("TALK is as it was", x.house(1, 0), 0);
    }

    private static void drawnRefused() {
        due.is("no STREET, BAD", new NearlySaid().drawn(-1, 0, 0), STATE);
        NearlySaid x = Due.with(THREE);
        due.is("n below", x.drawn(-1, 1, 0), BAD);
        due.is("n above", x.drawn(61, 1, 0), BAD);
        due.is("seed below", x.drawn(1, 0, 0), BAD);
        due.is("seed above", x.drawn(1, 1000000, 0), BAD);
        due.is("what below", x.drawn(1, 1, -1), BAD);
        due.is("what above", x.drawn(1, 1, 2), BAD);
        due.is("the greatest", x.drawn(0, 999999, 0), 0);
        due.is("the longest", x.drawn(60, 999999, 0) >= 0 ? 1 : 0, 1);
    }
}
