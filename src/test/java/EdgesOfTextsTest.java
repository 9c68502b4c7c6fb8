import java.util.ArrayList;
import java.util.List;

/** Texts at their edges: each sentence of TEXTS, FAULTS and of promises 1, 6 to 8 that names one, with its own test. */
public final class EdgesOfTextsTest {
    private static final int FAULTY = -1000100;
    private static final String SORTS = "khmsn";
    private static final String SEVEN = "g1,0;k1,1,1;h1,1,1;m1,1,1;s1,1,1;n1,1,1;k1,1,1;h1,1,1;";
    private static final Due due = new Due("EdgesOfTextsTest");

    public static void main(String[] args) {
        tapeHoldsAllBytes();
        tapeIsEmptyThen();
        nothingIsLeftOnTheTape();
        figuresUpToTheEnd();
        numbersAsTold();
        runsOfThreeFigures();
        eachTokenAtEachPlace();
        bytesThatAreNoToken();
        lettersEachByItself();
        theEnd();
        oneHouseAtLeast();
        sevenHousesAtMost();
        theFirstToken();
        theLeastOfOneToken();
        noFaultBeforeOne();
        inPlaceOfTheOneBefore();
        emptyBehindWhatWasForetold();
        due.end();
    }

    private static void fault(String text, int place, int number) {
        NearlySaid x = new NearlySaid();
        due.is("street() of " + text, Due.read(x, text), FAULTY - place);
        due.is("fault() of " + text, x.fault(), number);
        due.is("no STREET by " + text, x.count(1), 0);
    }

    private static void good(String text, int houses) {
        NearlySaid x = new NearlySaid();
        due.is("street() of " + text, Due.read(x, text), houses);
        due.is("fault() of " + text, x.fault(), 0);
        due.is("HOUSES of " + text, x.count(1), houses);
    }

    private static void tapeHoldsAllBytes() {
        due.about("A byte (0 to 255) comes behind the tape: how many it has");
        for (int from = 0; from < 256; from += 100) {
            NearlySaid x = new NearlySaid();
            for (int i = 0; i < 100 && from + i < 256; i++) {
                due.is("feed(" + (from + i) + ")", x.feed(from + i), i + 1);
            }
        }
        due.about("THE TAPE has at most 120 bytes");
        NearlySaid x = new NearlySaid();
        Due.feed(x, SEVEN);
        for (int i = SEVEN.length() + 1; i <= 120; i++) {
            due.is("byte " + i, x.feed('k'), i);
        }
        due.is("byte 121", x.feed('k'), NearlySaid.FULL);
        due.is("street()", x.street(), FAULTY - SEVEN.length());
        due.is("byte 1", x.feed('k'), 1);
    }

    private static void tapeIsEmptyThen() {
        due.about("The tape, empty then, is read");
        NearlySaid x = new NearlySaid();
        due.is("an empty one", x.street(), FAULTY);
        due.is("a good one", Due.read(x, "g1,0;k0,1,0;"), 1);
        due.is("bytes behind it", x.count(7), 0);
        due.is("an empty one again", x.street(), FAULTY);
        due.is("the STREET stays", x.count(1), 1);
        due.is("a faulty one", Due.read(x, "g1,0;k0,1,0"), FAULTY - 11);
        due.is("bytes behind it", x.count(7), 0);
        due.is("what was faulty is gone", Due.read(x, ";"), FAULTY);
    }

    private static void nothingIsLeftOnTheTape() {
        due.about("The tape, empty then: what was there is no more behind the end");
        NearlySaid x = Due.with("g1,0;k0,1,09;k0,1,0;");
        due.is("figures were there", Due.read(x, "g1,0;k0,1,0"), FAULTY - 11);
        due.is("its fault", x.fault(), 1);
        Due.read(x, "g11,0;");
        due.is("a figure was there", Due.read(x, "g1"), FAULTY - 2);
        Due.read(x, "g1,0;k0,1,0;");
        due.is("a whole house was there", Due.read(x, "g1,0;"), FAULTY - 5);
        due.is("a sign was there", Due.read(x, "g1,0"), FAULTY - 4);
    }

    private static void figuresUpToTheEnd() {
        due.about("THE TAPE has at most 120 bytes: figures up to the last");
        fault("g" + "1".repeat(119), 1, 1);
        fault("1".repeat(120), 0, 1);
        fault("g1,0;k0,1," + "0".repeat(110), 10, 1);
    }

    private static void number(String ahead, int number, String behind, int least, int greatest) {
        for (String figures : new String[] {"" + number, number < 10 ? "0" + number : "" + number}) {
            String text = ahead + figures + behind;
            if (number >= least && number <= greatest) {
                good(text, 1);
            } else {
                fault(text, ahead.length(), 2);
            }
        }
    }

    private static void numbersAsTold() {
        for (int n = 0; n <= 99; n++) {
            due.about("STEP, 1 to 9");
            number("g", n, ",0;k0,1,0;", 1, 9);
            due.about("PLANK, 0 to 99");
            number("g1,", n, ";k0,1,0;", 0, 99);
            due.about("TALK, 0 to 20");
            number("g1,0;k", n, ",1,0;", 0, 20);
            due.about("KEEPS, 1 to 9");
            number("g1,0;k0,", n, ",0;", 1, 9);
            due.about("BARS, 0 to 9");
            number("g1,0;k0,1,", n, ";", 0, 9);
        }
        due.about("what is told is kept");
        NearlySaid x = Due.with("g09,99;k20,09,09;n00,01,00;");
        int[] want = {20, 9, 9, 0, 1, 0};
        for (int i = 0; i < 6; i++) {
            due.is("house(" + i / 3 + ", " + i % 3 + ")", x.house(i / 3, i % 3), want[i]);
        }
    }

    private static void runsOfThreeFigures() {
        due.about("a run of three figures, at its first");
        for (String run : new String[] {"000", "001", "100", "999", "0000", "12345678", "0000000000000000000000001"}) {
            fault("g" + run + ",0;k0,1,0;", 1, 1);
            fault("g1," + run + ";k0,1,0;", 3, 1);
            fault("g1,0;k" + run + ",1,0;", 6, 1);
            fault("g1,0;k0," + run + ",0;", 8, 1);
            fault("g1,0;k0,1," + run + ";", 10, 1);
            fault("g1,0;k0,1," + run, 10, 1);
            fault(run, 0, 1);
            fault("g1" + run, 1, 1);
            fault("g1,0;" + run, 5, 1);
            fault("g1,0;k0,1,0;" + run, 12, 1);
            fault("g1,0;k0,1,0;" + run + "k0,1,0;", 12, 1);
            fault(SEVEN + run, SEVEN.length(), 1);
        }
    }

    /** What may stand at a place: letters or a sign, or (least and greatest) a number. */
    private static final class Place {
        final String signs;
        final int least;
        final int greatest;
        final String example;

        Place(String signs, int least, int greatest, String example) {
            this.signs = signs;
            this.least = least;
            this.greatest = greatest;
            this.example = example;
        }

        static Place sign(String signs) {
            return new Place(signs, 0, -1, signs.substring(0, 1));
        }

        static Place number(int least, int greatest) {
            return new Place("", least, greatest, "" + least);
        }

        boolean isNumber() {
            return signs.isEmpty();
        }

        int faultOf(String token, boolean isFull) {
            boolean isFigures = Character.isDigit(token.charAt(0));
            if (!isNumber()) {
                boolean fits = !isFigures && signs.contains(token);
                return !fits ? 1 : isFull && signs.equals(SORTS) ? 3 : 0;
            }
            if (!isFigures || token.length() > 2) {
                return 1;
            }
            return Integer.parseInt(token) < least || Integer.parseInt(token) > greatest ? 2 : 0;
        }
    }

    private static final Place[] LAW = {Place.sign("g"), Place.number(1, 9), Place.sign(","), Place.number(0, 99),
        Place.sign(";")};
    private static final Place[] HOUSE = {Place.sign(SORTS), Place.number(0, 20), Place.sign(","), Place.number(1, 9),
        Place.sign(","), Place.number(0, 9), Place.sign(";")};

    private static Place placeOf(int token) {
        return token < LAW.length ? LAW[token] : HOUSE[(token - LAW.length) % HOUSE.length];
    }

    private static List<String> tokensOfAllSorts() {
        List<String> all = new ArrayList<>();
        for (char letter = 'a'; letter <= 'z'; letter++) {
            all.add("" + letter);
        }
        for (int number = 0; number < 100; number++) {
            all.add("" + number);
        }
        all.addAll(List.of(",", ";", "00", "05", "09", "000", "005", "100", "123", "4567", "K", " ", "\u00e9"));
        return all;
    }

    private static void eachTokenAtEachPlace() {
        StringBuilder ahead = new StringBuilder();
        int last = LAW.length + 7 * HOUSE.length;
        for (int token = 0; token <= last; token++) {
            due.about("FAULTS, of each TOKEN as the text's number " + token);
            boolean isBehindNumber = token > 0 && placeOf(token - 1).isNumber();
            for (String one : tokensOfAllSorts()) {
                // Figures behind figures are one number with them, not one more.
                if (!isBehindNumber || !Character.isDigit(one.charAt(0))) {
                    put(ahead.toString(), one, placeOf(token).faultOf(one, token == last), token);
                }
            }
            ahead.append(placeOf(token).example);
        }
    }

    private static void put(String ahead, String one, int number, int token) {
        int houses = (token + 1 - LAW.length) / HOUSE.length;
        boolean ends = token >= LAW.length && (token + 1 - LAW.length) % HOUSE.length == 0;
        if (number != 0) {
            fault(ahead + one, ahead.length(), number);
        } else if (ends) {
            good(ahead + one, houses);
        } else {
            fault(ahead + one, ahead.length() + one.length(), 1);
        }
    }

    private static void bytesThatAreNoToken() {
        due.about("nothing else");
        String text = "g4,12;k9,2,0;n13,4,5;";
        for (int letter = 0; letter <= 255; letter++) {
            boolean isToken = letter >= 'a' && letter <= 'z' || letter >= '0' && letter <= '9'
                || letter == ',' || letter == ';';
            for (int at = 0; at <= text.length() && !isToken; at++) {
                NearlySaid x = new NearlySaid();
                Due.feed(x, text.substring(0, at));
                x.feed(letter);
                Due.feed(x, text.substring(at));
                due.is("byte " + letter + " at " + at, x.street(), FAULTY - at);
                due.is("its fault", x.fault(), 1);
            }
        }
    }

    private static void lettersEachByItself() {
        due.about("letters a to z (each by itself)");
        for (char letter = 'a'; letter <= 'z'; letter++) {
            boolean isSort = SORTS.indexOf(letter) >= 0;
            if (letter != 'g') {
                fault(letter + "1,0;k0,1,0;", 0, 1);
            }
            fault("g" + letter + "1,0;k0,1,0;", 1, 1);
            fault("g1" + letter, 2, 1);
            fault("g1,0;k" + letter + "0,1,0;", 6, 1);
            if (isSort) {
                good("g1,0;" + letter + "0,1,0;", 1);
            } else {
                fault("g1,0;" + letter + "0,1,0;", 5, 1);
            }
        }
    }

    private static void theEnd() {
        due.about("the end: how many bytes there are");
        String text = "g4,12;k9,2,0;n13,4,5;";
        for (int length = 0; length <= text.length(); length++) {
            String start = text.substring(0, length);
            if (length == 13 || length == 21) {
                good(start, length == 13 ? 1 : 2);
            } else {
                fault(start, length, 1);
            }
        }
    }

    private static void oneHouseAtLeast() {
        due.about("street: law house { house }");
        fault("g1,0;", 5, 1);
        fault("g1,0;;", 5, 1);
        fault("g1,0;g1,0;k0,1,0;", 5, 1);
        fault("k0,1,0;", 0, 1);
        fault("g1,0;k0,1,0;g1,0;", 12, 1);
        fault("g1,0;k0,1,0;,", 12, 1);
        fault("g1,0;k0,1,0;7", 12, 1);
        good("g1,0;k0,1,0;", 1);
    }

    private static void sevenHousesAtMost() {
        due.about("HOUSES 0 .. 6, 7 at most, from the top down");
        for (int houses = 1; houses <= 9; houses++) {
            StringBuilder text = new StringBuilder("g1,0;");
            for (int h = 0; h < houses; h++) {
                text.append(SORTS.charAt(h % 5)).append(h).append(",1,0;");
            }
            if (houses <= 7) {
                good(text.toString(), houses);
            } else {
                fault(text.toString(), 5 + 7 * 7, 3);
            }
        }
        NearlySaid x = Due.with("g1,0;k0,1,0;h1,1,0;m2,1,0;s3,1,0;n4,1,0;k5,1,0;h6,1,0;");
        for (int h = 0; h < 7; h++) {
            due.is("TALK of " + h, x.house(h, 0), h);
            due.is("KIND of " + h, x.kind(h), h % 5 + 1);
        }
        due.about("3 a house more than there is room for (its letter)");
        for (int s = 0; s < 5; s++) {
            fault(SEVEN + SORTS.charAt(s), SEVEN.length(), 3);
            fault(SEVEN + SORTS.charAt(s) + "99,0,10;", SEVEN.length(), 3);
        }
    }

    private static void theFirstToken() {
        due.about("the first TOKEN that has one");
        fault("g0,100;", 1, 2);
        fault("g1,100;k99,0,10;", 3, 1);
        fault("g10;", 1, 2);
        fault("g1,0;k21,0,10;", 6, 2);
        fault("g1,0;k0,0,10;", 8, 2);
        fault("g1,0;k0,1,10;!", 10, 2);
        fault("g1,0;k0,1,0;!k", 12, 1);
        fault("g1,0;k99" + "!", 6, 2);
    }

    private static void theLeastOfOneToken() {
        due.about("of one TOKEN the least");
        fault("99", 0, 1);
        fault("g1,0;99", 5, 1);
        fault("g1,0;k0,1,0;99", 12, 1);
        fault("g1,0;k0,1,100;", 10, 1);
        fault(SEVEN + "g", SEVEN.length(), 1);
        fault(SEVEN + "a", SEVEN.length(), 1);
        fault(SEVEN + ",", SEVEN.length(), 1);
        fault(SEVEN + "99", SEVEN.length(), 1);
        fault(SEVEN + "!", SEVEN.length(), 1);
    }

    private static void noFaultBeforeOne() {
        due.about("The number of the latest FAULT; 0 before one");
        NearlySaid x = new NearlySaid();
        due.is("at first", x.fault(), 0);
        Due.read(x, "g1,0;k0,1,0;");
        due.is("behind a good text", x.fault(), 0);
        Due.read(x, "g0");
        due.is("behind a number", x.fault(), 2);
        Due.read(x, SEVEN + "k");
        due.is("behind a house too many", x.fault(), 3);
        Due.read(x, "g1,0;k0,1,0;");
        due.is("the latest yet", x.fault(), 3);
        x.street();
        due.is("behind the end", x.fault(), 1);
    }

    private static void inPlaceOfTheOneBefore() {
        due.about("A STREET that is read stands in place of the one before");
        NearlySaid x = Due.with(SEVEN);
        x.minutes(20);
        x.hush(6, 1);
        x.image(1);
        due.is("one house", Due.read(x, "g3,7;s0,2,4;"), 1);
        int[] want = {0, 1, 0, 0, 0, 0, 0, 0};
        for (int what = 0; what < 8; what++) {
            due.is("count(" + what + ")", x.count(what), want[what]);
        }
        due.is("its gutter", x.house(0, 3), 0);
        due.is("its bars", x.house(0, 4), 0);
        due.is("house 1 is no more", x.house(1, 0), NearlySaid.BAD);
        due.is("nobody is hushed", x.stand(2), 0);
        due.is("no ACT", x.undo(), NearlySaid.STATE);
        due.is("seven again", Due.read(x, SEVEN), 7);
        for (int h = 0; h < 7; h++) {
            due.is("gutter of " + h, x.house(h, 3), 0);
            due.is("CAUGHT at " + h, x.house(h, 4), 0);
            due.is("hushed " + h, x.house(h, 6), 0);
        }
        x.minutes(9);
        due.is("the same text again", Due.read(x, SEVEN), 7);
        due.is("MINUTE", x.count(2), 0);
        due.is("gutters", x.stand(4), 0);
        due.is("CAUGHT", x.stand(3), 0);
        due.is("the pond", x.stand(0), 0);
        due.is("an image stays", x.restore(1), 1);
        due.is("its MINUTE", x.count(2), 20);
    }

    private static void emptyBehindWhatWasForetold() {
        due.about("MINUTE 0, all gutters, bars, the pond are empty, nobody is hushed, whatever was foretold");
        NearlySaid x = Due.with(SEVEN);
        NearlySaid twin = Due.with(SEVEN);
        x.minutes(24);
        x.hushed(40, 5, 0);
        Due.read(x, SEVEN);
        due.same("behind hushed()", Seen.of(x), Seen.of(twin));
        x = Due.with(SEVEN);
        twin = Due.with(SEVEN);
        x.pond(99, 0);
        Due.read(x, SEVEN);
        due.same("behind pond()", Seen.of(x), Seen.of(twin));
        x = Due.with(SEVEN);
        twin = new NearlySaid();
        twin.street();
        Due.read(twin, SEVEN);
        x.drawn(60, 1, 0);
        due.is("a faulty text", Due.read(x, "g1,0;k20,1,0;k"), FAULTY - 14);
        Due.read(x, SEVEN);
        due.same("behind drawn() and a faulty text", Seen.of(x), Seen.of(twin));
    }
}
