/** Promises 1 (a new object), 6 to 8 (feed, street, fault). */
public final class TextTest {
    private static final int FAULTY = -1000100;
    private static final Due due = new Due("TextTest");

    public static void main(String[] args) {
        newObject();
        feeding();
        reading();
        faults();
        room();
        bytesThatAreNoTokens();
        whatStaysAndWhatGoes();
        due.end();
    }

    private static void newObject() {
        NearlySaid x = new NearlySaid();
        for (int what = 0; what <= 7; what++) {
            due.is("count(" + what + ") of a new object", x.count(what), 0);
        }
        due.is("fault() of a new object", x.fault(), 0);
        due.is("stand(0) of a new object", x.stand(0), NearlySaid.STATE);
        due.is("kind(0) of a new object", x.kind(0), NearlySaid.BAD);
    }

    private static void feeding() {
        NearlySaid x = new NearlySaid();
        due.is("feed(-1)", x.feed(-1), NearlySaid.BAD);
        due.is("feed(256)", x.feed(256), NearlySaid.BAD);
        for (int i = 1; i <= 120; i++) {
            due.is("byte " + i, x.feed(i % 256), i);
        }
        due.is("one too many", x.feed(0), NearlySaid.FULL);
        due.is("BAD ahead of FULL", x.feed(256), NearlySaid.BAD);
        due.is("count(7)", x.count(7), 120);
        x.street();
        due.is("count(7) behind street()", x.count(7), 0);
        due.is("feed(255)", x.feed(255), 1);
        due.is("feed(0)", x.feed(0), 2);
    }

    private static void reading() {
        NearlySaid x = new NearlySaid();
        due.is("five sorts", Due.read(x, "g4,12;k9,2,0;h7,3,3;m5,5,0;s20,2,2;n0,3,1;"), 5);
        int[][] told = {{9, 2, 0, 1}, {7, 3, 3, 2}, {5, 5, 0, 3}, {20, 2, 2, 4}, {0, 3, 1, 5}};
        for (int h = 0; h < told.length; h++) {
            due.is("TALK of " + h, x.house(h, 0), told[h][0]);
            due.is("KEEPS of " + h, x.house(h, 1), told[h][1]);
            due.is("BARS of " + h, x.house(h, 2), told[h][2]);
            due.is("KIND of " + h, x.kind(h), told[h][3]);
        }
        due.is("no sixth", x.kind(5), NearlySaid.BAD);
        due.is("figures with a 0 ahead", Due.read(x, "g09,00;k05,01,09;"), 1);
        due.is("TALK of 05", x.house(0, 0), 5);
        due.is("fault() behind no fault", x.fault(), 0);
        due.is("the greatest numbers", Due.read(x, "g9,99;k20,9,9;"), 1);
        due.is("the least numbers", Due.read(x, "g1,0;k0,1,0;"), 1);
    }

    private static void fault(String text, int place, int number) {
        NearlySaid x = new NearlySaid();
        due.is("street() of " + text, Due.read(x, text), FAULTY - place);
        due.is("fault() of " + text, x.fault(), number);
        due.is("no street of " + text, x.count(1), 0);
    }

    private static void faults() {
        fault("", 0, 1);
        fault("k1,1,1;", 0, 1);
        fault("1", 0, 1);
        fault("g", 1, 1);
        fault("g;", 1, 1);
        fault("g0,1;", 1, 2);
        fault("g10,1;", 1, 2);
        fault("g123,1;", 1, 1);
        fault("g1;", 2, 1);
        fault("g1,k", 3, 1);
        fault("g1,100;", 3, 1);
        fault("g1,9,", 4, 1);
        fault("g1,99;", 6, 1);
        fault("g1,9;g1,9;", 5, 1);
        fault("g1,9;a1,1,1;", 5, 1);
        fault("g1,9;kk", 6, 1);
        fault("g1,9;k21,1,1;", 6, 2);
        fault("g1,9;k99", 6, 2);
        fault("g1,9;k1;", 7, 1);
        fault("g1,9;k1,0,1;", 8, 2);
        fault("g1,9;k1,10,1;", 8, 2);
        fault("g1,9;k1,1,10;", 10, 2);
        fault("g1,9;k1,1,1234", 10, 1);
        fault("g1,9;k1,1,1,", 11, 1);
        fault("g1,9;k1,1,1", 11, 1);
        fault("g1,9;k1,1,1;;", 12, 1);
        fault("g1,9;k1,1,1;k", 13, 1);
        fault("g1,9;k1,1,1;5", 12, 1);
        fault("g0,1;k1,0,1;", 1, 2);
    }

    private static void room() {
        String seven = "g1,0;k1,1,1;h1,1,1;m1,1,1;s1,1,1;n1,1,1;k1,1,1;h1,1,1;";
        due.is("seven houses", Due.read(new NearlySaid(), seven), 7);
        fault(seven + "m1,1,1;", seven.length(), 3);
        fault(seven + "m", seven.length(), 3);
        fault(seven + "q", seven.length(), 1);
        fault(seven + "g", seven.length(), 1);
        fault(seven + "1", seven.length(), 1);
        fault(seven + ";", seven.length(), 1);
    }

    private static void bytesThatAreNoTokens() {
        for (int letter = 0; letter <= 255; letter++) {
            boolean isSort = "khmsn".indexOf((char) letter) >= 0;
            NearlySaid x = new NearlySaid();
            Due.feed(x, "g1,9;");
            x.feed(letter);
            Due.feed(x, "1,1,1;");
            due.is("byte " + letter + " for a sort", x.street(), isSort ? 1 : FAULTY - 5);
        }
        fault("g 1,9;", 1, 1);
        fault("G1,9;k1,1,1;", 0, 1);
        fault("g1.9;", 2, 1);
    }

    private static void whatStaysAndWhatGoes() {
        NearlySaid x = Due.with("g2,3;m4,3,0;k8,2,2;");
        x.row(0, 0, 3);
        x.minutes(3);
        x.hush(0, 1);
        due.is("a faulty text", Due.read(x, "g2,3"), FAULTY - 4);
        due.is("the tape is empty", x.count(7), 0);
        due.is("MINUTE stays", x.count(2), 3);
        due.is("HOUSES stay", x.count(1), 2);
        due.is("the hushed one stays", x.count(5), 1);
        due.is("the ACTS stay", x.count(6), 4);
        due.is("the first house stays", x.kind(0), 3);
        due.is("a faulty house", Due.read(x, "g9,9;s1,1,1;s1,1,x"), FAULTY - 17);
        due.is("the first house stays, too", x.kind(0), 3);
        due.is("another street", Due.read(x, "g1,0;n1,1,1;s1,1,1;"), 2);
        due.is("fault() is the latest one yet", x.fault(), 1);
        due.is("MINUTE", x.count(2), 0);
        due.is("the pond", x.count(3), 0);
        due.is("CAUGHT", x.count(4), 0);
        due.is("hushed", x.count(5), 0);
        due.is("ACTS", x.count(6), 0);
        due.is("undo()", x.undo(), NearlySaid.STATE);
        due.is("all gutters", x.stand(4), 0);
        due.is("the rows stay", x.count(0), 1);
        due.is("another fault", Due.read(x, "g0"), FAULTY - 1);
        due.is("fault()", x.fault(), 2);
    }
}
