/** An object in the middle of its work: rows, a street with acts, one image, a fault, a trace, bytes on the tape. */
final class Standing {
    static final String TEXT = "g2,3;m4,3,0;k8,2,2;s0,1,1;";
    static final int HOUSES = 3;

    private Standing() {
    }

    static NearlySaid made() {
        NearlySaid x = new NearlySaid();
        Due.read(x, "g0");
        Due.read(x, TEXT);
        x.row(0, 2, 14);
        for (int i = 0; i < 3; i++) {
            x.set(0, i, i + 1);
        }
        x.row(1, 0, 3);
        x.set(1, 1, 2);
        x.minutes(2);
        x.image(0);
        x.minutes(3);
        x.talk(0, 9);
        x.hush(2, 1);
        x.bars(1, 5);
        x.letDown(2);
        x.minutes(1);
        x.ask(1, 0);
        Due.feed(x, "g");
        x.drop(2);
        return x;
    }

    /** What status() tells of it: NULL, by the row that was missing. */
    static final int STATUS = 1;
}
