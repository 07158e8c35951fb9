/** Compares answers with those that are due, and ends a test with exit code 1 if one was not. */
final class Check {
    private int wrong = 0;
    private int made = 0;

    void due(String call, int got, int want) {
        made++;
        if (got != want) {
            wrong++;
            System.out.println(call + " answered " + got + ", due is " + want);
        }
    }

    void holds(String what, boolean so) {
        made++;
        if (!so) {
            wrong++;
            System.out.println("does not hold: " + what);
        }
    }

    void end() {
        System.out.println(made + " checks, " + wrong + " wrong");
        if (wrong != 0 || made == 0) {
            System.exit(1);
        }
    }

    static void feed(NodBets bets, String text) {
        for (int i = 0; i < text.length(); i++) {
            bets.feed(text.charAt(i));
        }
    }

    /** A new object with the town of a text. */
    static NodBets town(String text) {
        NodBets bets = new NodBets();
        feed(bets, text);
        if (bets.town() < 0) {
            throw new IllegalStateException("no town: " + text);
        }
        return bets;
    }

    /** Makes a row of ints that holds these items. */
    static void fill(NodBets bets, int row, int... items) {
        bets.row(row, 2, items.length);
        for (int i = 0; i < items.length; i++) {
            bets.set(row, i, items[i]);
        }
    }
}
