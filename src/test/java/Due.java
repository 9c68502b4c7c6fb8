/** Counts the answers of one test, prints those that are not the due ones, and ends with 1 if there was one. */
final class Due {
    private final String test;
    private String sentence = "";
    private int right;
    private int wrong;

    Due(String test) {
        this.test = test;
    }

    /** The sentence of the document that the answers from here on are about. */
    void about(String words) {
        sentence = " (" + words + ")";
    }

    void is(String call, long got, long want) {
        if (got == want) {
            right++;
        } else {
            wrong++;
            System.out.println(test + sentence + ": " + call + " answered " + got + ", due is " + want);
        }
    }

    void isNot(String call, long got, long unwanted) {
        if (got != unwanted) {
            right++;
        } else {
            wrong++;
            System.out.println(test + sentence + ": " + call + " answered " + got + ", which is not due");
        }
    }

    void same(String call, String got, String want) {
        if (got.equals(want)) {
            right++;
        } else {
            wrong++;
            System.out.println(test + sentence + ": " + call + " left\n" + got + "due is\n" + want);
        }
    }

    void end() {
        System.out.println(test + ": " + right + " answers as due, " + wrong + " not");
        if (wrong != 0) {
            System.exit(1);
        }
    }

    static void feed(NearlySaid x, String text) {
        for (int i = 0; i < text.length(); i++) {
            x.feed(text.charAt(i));
        }
    }

    static int read(NearlySaid x, String text) {
        feed(x, text);
        return x.street();
    }

    /** A new object with this street. */
    static NearlySaid with(String text) {
        NearlySaid x = new NearlySaid();
        if (read(x, text) < 1) {
            throw new IllegalStateException("the test's own street is faulty: " + text);
        }
        return x;
    }
}
