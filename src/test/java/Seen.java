/**
 * All that calls can tell of an object but its status, as a text, so that two objects can be told apart. The object is
 * used up by it: acts are undone, images restored, the tape is read. It takes some 400 calls.
 */
final class Seen {
    private final NearlySaid x;
    private final StringBuilder text = new StringBuilder();

    private Seen(NearlySaid x) {
        this.x = x;
    }

    static String of(NearlySaid x) {
        Seen seen = new Seen(x);
        seen.what("fault", x.fault());
        for (int i = 0; i <= 7; i++) {
            seen.what("count " + i, x.count(i));
            seen.what("trace " + i, x.trace(i));
        }
        seen.street();
        while (x.undo() != NearlySaid.STATE) {
            seen.undone();
        }
        for (int k = 0; k < 2; k++) {
            seen.what("restore " + k, x.restore(k));
            seen.brief("image " + k);
        }
        seen.tape();
        seen.rows();
        return seen.text.toString();
    }

    private void what(String name, long answer) {
        text.append(name).append(": ").append(answer).append('\n');
    }

    private void street() {
        for (int h = 0; h < x.count(1); h++) {
            what("kind of " + h, x.kind(h));
            for (int i = 0; i <= 6; i++) {
                what("house " + h + " " + i, x.house(h, i));
            }
        }
        brief("now");
    }

    private void brief(String name) {
        what(name + ", houses", x.count(1));
        what(name + ", minute", x.count(2));
        what(name + ", pond", x.stand(0));
        what(name + ", hushed", x.stand(2));
        what(name + ", caught", x.stand(3));
        what(name + ", gutters", x.stand(4));
        what(name + ", pond ahead (STEP)", x.pond(20, 0));
        what(name + ", over (PLANK)", x.over());
        what(name + ", talk", x.house(0, 0));
        what(name + ", bars", x.house(1, 2));
    }

    private void undone() {
        what("undone, minute", x.count(2));
        what("undone, pond", x.count(3));
        what("undone, caught", x.count(4));
        what("undone, hushed", x.count(5));
        what("undone, gutters", x.stand(4));
        what("undone, talk", x.house(0, 0));
        what("undone, bars", x.house(1, 2));
    }

    private void tape() {
        what("the tape", Due.read(x, "1,7;s0,4,0;"));
        what("its fault", x.fault());
    }

    /** Which items of the first three places are 0, 1, 2 or 3; how great their lanes are; which rows there are. */
    private void rows() {
        for (int v = 0; v <= 3; v++) {
            Due.read(x, v == 0 ? "g1,0;k0,1,0;" : "g1,0;s0," + v + ",0;");
            for (int r = 0; r <= 2; r++) {
                for (int i = 0; i <= 2; i++) {
                    what("item " + i + " of row " + r + " by " + v, x.silent(0, r, i, 1));
                }
            }
        }
        for (int r = 0; r <= 7; r++) {
            what("lane of row " + r, x.set(r, 0, 70000));
            what("row " + r, x.drop(r));
        }
    }
}
