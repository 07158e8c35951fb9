/** Compares answers with those that are due, and ends a test with exit code 1 if one was not. */
final class Check {
    private int wrong = 0;
    private int made = 0;
    private int madeAhead = 0;
    private int sentences = 0;
    private String sentence = "";

    /** What is checked from now on belongs to this sentence of the document. */
    void sentence(String quoted) {
        endSentence();
        sentence = quoted;
        sentences++;
        madeAhead = made;
    }

    private void endSentence() {
        if (!sentence.isEmpty() && made == madeAhead) {
            wrong++;
            System.out.println("nothing was checked of: " + sentence);
        }
    }

    void due(String call, int got, int want) {
        made++;
        if (got != want) {
            wrong++;
            tell(call + " answered " + got + ", due is " + want);
        }
    }

    void same(String what, String got, String want) {
        made++;
        if (!got.equals(want)) {
            wrong++;
            tell(what + " is\n  " + got + ", due is\n  " + want);
        }
    }

    void holds(String what, boolean so) {
        made++;
        if (!so) {
            wrong++;
            tell("does not hold: " + what);
        }
    }

    private void tell(String what) {
        System.out.println(sentence.isEmpty() ? what : "\"" + sentence + "\": " + what);
    }

    void end() {
        endSentence();
        System.out.println(made + " checks" + (sentences > 0 ? " of " + sentences + " sentences" : "")
                + ", " + wrong + " wrong");
        if (wrong != 0 || made == 0) {
            System.exit(1);
        }
    }

    static void feed(NodBets bets, String text) {
        for (int i = 0; i < text.length(); i++) {
            bets.feed(text.charAt(i));
        }
    }

    /** A new object with the town of a text. */
    static NodBets town(String text) {
        NodBets bets = new NodBets();
        feed(bets, text);
        if (bets.town() < 0) {
            throw new IllegalStateException("no town: " + text);
        }
        return bets;
    }

    /** Makes a row of ints that holds these items. */
    static void fill(NodBets bets, int row, int... items) {
        fillLane(bets, row, 2, items);
    }

    static void fillLane(NodBets bets, int row, int lane, int... items) {
        bets.row(row, lane, items.length);
        for (int i = 0; i < items.length; i++) {
            bets.set(row, i, items[i]);
        }
    }
}
