import java.util.function.ToIntFunction;

/** The edges that the document names of texts: section 1, promises 1 and 6 to 8. */
public final class TextsEdgesTest {
    private static final Check check = new Check();
    private static final int BAD = NodBets.BAD, STATE = NodBets.STATE, FULL = NodBets.FULL;
    private static final int FAULTS = -1000100;
    private static final String LIES = "e20,3;a20,3;h20,3;p20,3;l20,3;e20,3;";
    private static final String STRANGERS = "s20,15;s20,15;s20,15;s20,15;";
    private static final String FIGURES = "0123456789";

    public static void main(String[] args) {
        noTownAtFirst();
        tapeHolds120();
        bytesOnly();
        lettersByThemselves();
        twoFiguresAtMost();
        nothingElse();
        partsInTheirOrder();
        numbersAsTold();
        sorts();
        lieRoom();
        strangerRoom();
        townInPlaceOfAnother();
        firstTokenWithAFault();
        leastFaultOfAToken();
        whatCannotStandThere();
        threeFigures();
        faultAtTheEnd();
        tapeIsEmptyThen();
        faultLeavesAll();
        latestFault();
        check.end();
    }

    private static NodBets read(String text, int due) {
        NodBets x = new NodBets();
        Check.feed(x, text);
        check.due("town() of " + text, x.town(), due);
        check.due("fault() of " + text, x.fault(), 0);
        return x;
    }

    private static void faulty(String text, int place, int number) {
        NodBets x = new NodBets();
        Check.feed(x, text);
        check.due("town() of " + text, x.town(), FAULTS - place);
        check.due("fault() of " + text, x.fault(), number);
    }

    private static void noTownAtFirst() {
        check.sentence("NodBets(): No TOWN.");
        NodBets x = new NodBets();
        for (int what = 1; what <= 5; what++) {
            check.due("count(" + what + ")", x.count(what), 0);
        }
        check.due("image(0)", x.image(0), STATE);
        check.due("who(0, 0, 0)", x.who(0, 0, 0), STATE);
        check.due("stranger(0, 0)", x.stranger(0, 0), BAD);
        check.due("lie(0, 0)", x.lie(0, 0), BAD);
        check.due("a law alone is a TOWN", read("t1;", 0).image(0), 1);
    }

    private static void tapeHolds120() {
        check.sentence("THE TAPE has at most 120 bytes, that come one by one");
        NodBets x = new NodBets();
        for (int bytes = 1; bytes <= 120; bytes++) {
            check.due("feed, byte " + bytes, x.feed(bytes), bytes);
        }
        check.due("one more", x.feed('t'), FULL);
        check.due("one more again", x.feed('t'), FULL);
        check.due("count(6)", x.count(6), 120);
        x.town();
        check.due("room again", x.feed('t'), 1);
    }

    private static void bytesOnly() {
        check.sentence("A byte (0 to 255) comes behind the tape: how many it has. BAD; FULL.");
        NodBets x = new NodBets();
        for (int letter : new int[] {-1, 256, Integer.MIN_VALUE, Integer.MAX_VALUE}) {
            check.due("feed(" + letter + ")", x.feed(letter), BAD);
        }
        check.due("count(6)", x.count(6), 0);
        check.due("feed(0)", x.feed(0), 1);
        check.due("feed(255)", x.feed(255), 2);
    }

    private static void lettersByThemselves() {
        check.sentence("TOKENS: letters a to z (each by itself)");
        faulty("tt", 1, 1);
        faulty("t1;ea", 4, 1);
        faulty("t1;ee5,0;", 4, 1);
        faulty("t1;e5,0;ss5,0;", 9, 1);
        read("t1;e5,0;a5,0;s5,0;", 1);
    }

    private static void twoFiguresAtMost() {
        check.sentence("NUMBERS (figures, 2 at most)");
        check.due("STAKE", read("t9;", 0).count(3), 9);
        check.due("STAKE of two figures", read("t09;", 0).count(3), 9);
        check.due("WEIGHT of two figures", read("t1;e01,00;", 0).lie(0, 0), 1);
        check.due("TOPIC of two figures", read("t1;e01,03;", 0).lie(0, 1), 3);
        check.due("TRUST of two figures", read("t1;s00,00;", 1).stranger(0, 0), 0);
        check.due("DOUBTS of two figures", read("t1;s00,09;", 1).stranger(0, 1), 9);
        faulty("t009;", 1, 1);
    }

    private static void nothingElse() {
        check.sentence("SIGNS , and ; nothing else, no blanks");
        String text = "t9;e20,3;s20,15;";
        for (int at = 0; at <= text.length(); at++) {
            faulty(text.substring(0, at) + " " + text.substring(at), at, 1);
            if (at < text.length()) {
                faulty(text.substring(0, at) + (char) 0 + text.substring(at + 1), at, 1);
                faulty(text.substring(0, at) + (char) 255 + text.substring(at + 1), at, 1);
            }
        }
        faulty("T9;", 0, 1);
        faulty("t9;E5,0;", 3, 1);
        faulty("t9.", 2, 1);
        faulty("t9:", 2, 1);
        faulty("t-9;", 1, 1);
        faulty("t9\n;", 2, 1);
    }

    private static void partsInTheirOrder() {
        check.sentence("town: law { lie } { stranger }");
        read("t1;", 0);
        read("t1;e5,0;", 0);
        read("t1;s5,0;", 1);
        read("t1;e5,0;s5,0;", 1);
        faulty("e5,0;", 0, 1);
        faulty("s5,0;", 0, 1);
        faulty("t1;t1;", 3, 1);
        faulty("t1;e5,0;t1;", 8, 1);
        faulty("t1;s5,0;t1;", 8, 1);
        faulty("t1;s5,0;e5,0;", 8, 1);
        faulty("t1;;", 3, 1);
    }

    private static void numbersAsTold() {
        check.sentence("law: t STAKE ; (1 to 9)");
        numbers("t", ";", 1, 9, x -> x.count(3));
        check.sentence("lie: SORT WEIGHT , TOPIC ; .. 1 to 20");
        numbers("t1;e", ",0;", 1, 20, x -> x.lie(0, 0));
        check.sentence("lie: SORT WEIGHT , TOPIC ; .. 0 to 3");
        numbers("t1;e20,", ";", 0, 3, x -> x.lie(0, 1));
        check.sentence("stranger: s TRUST , DOUBTS ; (0 to 20");
        numbers("t1;s", ",0;", 0, 20, x -> x.stranger(0, 0));
        check.sentence("stranger: s TRUST , DOUBTS ; .. a set of TOPICS, 0 to 15");
        numbers("t1;s20,", ";", 0, 15, x -> x.stranger(0, 1));
    }

    /** Every number of one or two figures between two parts of a text: as told, or FAULT 2 at its first figure. */
    private static void numbers(String ahead, String behind, int least, int most, ToIntFunction<NodBets> what) {
        for (int v = 0; v < 100; v++) {
            number(ahead, "" + v, behind, v >= least && v <= most, what);
            if (v < 10) {
                number(ahead, "0" + v, behind, v >= least && v <= most, what);
            }
        }
    }

    private static void number(String ahead, String v, String behind, boolean told, ToIntFunction<NodBets> what) {
        String text = ahead + v + behind;
        if (told) {
            int strangers = text.contains("s") ? 1 : 0;
            check.due(text, what.applyAsInt(read(text, strangers)), Integer.parseInt(v));
        } else {
            faulty(text, ahead.length(), 2);
        }
    }

    private static void sorts() {
        check.sentence("SORT: e an easy one, a an absurd one, h a habit, p a proof, l a lame one");
        for (char letter = 'a'; letter <= 'z'; letter++) {
            int kind = " eahpl".indexOf(letter);
            if (kind > 0) {
                check.due("KIND of " + letter, read("t1;" + letter + "5,0;", 0).kind(0), kind);
            } else if (letter != 's') {
                faulty("t1;" + letter + "5,0;", 3, 1);
            }
        }
    }

    private static void lieRoom() {
        check.sentence("LIES 0 .. 5, 6 at most: 3 a lie .. more than there is room for (its letter)");
        NodBets x = read("t9;" + LIES, 0);
        check.due("LIES", x.count(1), 6);
        check.due("the last", x.lie(5, 0), 20);
        check.due("one more", x.lie(6, 0), BAD);
        for (int i = 0; i < 5; i++) {
            faulty("t9;" + LIES + "eahpl".charAt(i) + "5,0;", 39, 3);
            faulty("t9;" + LIES + "eahpl".charAt(i), 39, 3);
            faulty("t9;" + LIES + "eahpl".charAt(i) + "99,0;", 39, 3);
        }
        read("t9;" + LIES + "s5,0;", 1);
    }

    private static void strangerRoom() {
        check.sentence("STRANGERS 0 .. 3, 4 at most: 3 .. a stranger more than there is room for (its letter)");
        NodBets x = read("t9;" + STRANGERS, 4);
        check.due("the last", x.stranger(3, 0), 20);
        check.due("one more", x.stranger(4, 0), BAD);
        faulty("t9;" + STRANGERS + "s5,0;", 31, 3);
        faulty("t9;" + STRANGERS + "s", 31, 3);
        faulty("t9;" + STRANGERS + "s99", 31, 3);
        check.due("the fullest town", read("t09;" + LIES + STRANGERS, 4).count(1), 6);
        faulty("t9;" + LIES + STRANGERS + "s", 67, 3);
    }

    private static void townInPlaceOfAnother() {
        check.sentence("A TOWN that is read stands in place of the one before (none at first): nothing was TOLD, "
                + "PURSE is 0; no ACT can be undone.");
        NodBets x = Check.town("t9;e1,0;e1,0;e1,0;s20,0;s20,0;s20,0;s20,0;");
        for (int s = 0; s < 4; s++) {
            x.tell(s, 0);
            x.tell(s, 1);
        }
        x.supper(0);
        Check.feed(x, "t2;h7,3;a4,2;s3,12;");
        check.due("town()", x.town(), 1);
        check.due("PURSE", x.count(4), 0);
        check.due("ACTS", x.count(5), 0);
        check.due("undo()", x.undo(), STATE);
        check.due("LIES, STRANGERS, STAKE", x.count(1) * 100 + x.count(2) * 10 + x.count(3), 212);
        for (int lie = 0; lie < 2; lie++) {
            check.due("how many were TOLD " + lie, x.lie(lie, 2), 0);
            check.due("how many NODDED at " + lie, x.lie(lie, 3), 0);
        }
        check.due("TOLD", x.stranger(0, 2), 0);
        check.due("NODDED", x.stranger(0, 3), 0);
        check.due("TRUST", x.stranger(0, 0), 3);
        check.due("DOUBTS", x.stranger(0, 1), 12);
        check.due("stranger 1 is gone", x.stranger(1, 0), BAD);
        check.due("lie 2 is gone", x.lie(2, 0), BAD);
        check.due("MARK is of none", x.ask(1, 1), 2);
        Check.feed(x, "t2;e1,0;s5,0;s5,0;");
        x.town();
        check.due("stranger 1, anew, was TOLD none", x.stranger(1, 2), 0);
        check.due("and NODDED at none", x.stranger(1, 3), 0);
        check.due("TOLD anew", x.tell(1, 0), 1);
    }

    private static void firstTokenWithAFault() {
        check.sentence("FAULTS, the first TOKEN that has one (its first byte)");
        faulty("t0;e0,0;", 1, 2);
        faulty("t10;", 1, 2);
        faulty("t1;e21,4;", 4, 2);
        faulty("t1;e20,4;x", 7, 2);
        faulty("t1;e20,4; ", 7, 2);
        faulty("t1;e20,99", 7, 2);
        faulty("t1;x21,4;", 3, 1);
        faulty("t1;s21,16;", 4, 2);
        faulty("t1;s20,16;", 7, 2);
        faulty("t1;e1,0;e0,0;" + LIES, 9, 2);
        faulty("t1;" + LIES + "e0,0", 39, 3);
        faulty("t1;" + STRANGERS + "s21,0", 31, 3);
        faulty("t1; e0,0;", 3, 1);
        faulty("t1;e5;99", 5, 1);
    }

    private static void leastFaultOfAToken() {
        check.sentence("of one TOKEN the least");
        // A seventh lie that cannot stand there either, as strangers came.
        faulty("t1;" + LIES + "s5,0;e5,0;", 44, 1);
        faulty("t1;" + LIES + STRANGERS + "e", 67, 1);
        // Numbers that are not as told and cannot stand there.
        faulty("99", 0, 1);
        faulty("t1;99", 3, 1);
        faulty("t1;e5,0;99", 8, 1);
        faulty("t,99;", 1, 1);
        // Three figures are no number, so that they are not one that is too large.
        faulty("t100;", 1, 1);
        faulty("t1;e100,0;", 4, 1);
    }

    private static void whatCannotStandThere() {
        check.sentence("1 it cannot stand there, or is none");
        follows("", "t", "", 0);
        follows("t", "123456789", "0", 1);
        follows("t1", "", FIGURES, 1);
        follows("t1;", "eahpls", "", 3);
        follows("t1;e", "123456789", "0", 4);
        follows("t1;e1", "," + FIGURES, "", 4);
        follows("t1;e2", ",0", "123456789", 4);
        follows("t1;e5", ",", FIGURES, 4);
        follows("t1;e5,", "0123", "456789", 6);
        follows("t1;e5,0", "0123", "456789", 6);
        follows("t1;e5,3", "", FIGURES, 6);
        follows("t1;e5,3;", "eahpls", "", 8);
        follows("t1;s", FIGURES, "", 4);
        follows("t1;s2", ",0", "123456789", 4);
        follows("t1;s5,", FIGURES, "", 6);
        follows("t1;s5,1", "012345", "6789", 6);
        follows("t1;s5,1;", "s", "", 8);
        follows("t1;s20,15", "", "", 7);
    }

    /** Every byte behind a text: those that stand there, those that make its last number one not as told, the rest. */
    private static void follows(String text, String standing, String notAsTold, int numberAt) {
        for (char letter = 0; letter < 256; letter++) {
            NodBets x = new NodBets();
            Check.feed(x, text);
            x.feed(letter);
            String what = text + " and " + (int) letter;
            boolean isFigure = FIGURES.indexOf(letter) >= 0;
            boolean endsPart = letter == ';' && text.matches("t1|.*,.+") && !text.endsWith(";");
            if (endsPart) {
                check.due("town() of " + what, x.town(), text.contains("s") ? 1 : 0);
            } else if (standing.indexOf(letter) >= 0) {
                check.due("town() of " + what, x.town(), FAULTS - text.length() - 1);
                check.due("fault() of " + what, x.fault(), 1);
            } else if (notAsTold.indexOf(letter) >= 0) {
                check.due("town() of " + what, x.town(), FAULTS - numberAt);
                check.due("fault() of " + what, x.fault(), 2);
            } else {
                // A third figure takes the number that it stands behind along.
                check.due("town() of " + what, x.town(), FAULTS - (isFigure ? numberAt : text.length()));
                check.due("fault() of " + what, x.fault(), 1);
            }
        }
    }

    private static void threeFigures() {
        check.sentence("a run of three figures, at its first");
        for (String run : new String[] {"000", "001", "010", "100", "999", "0000", "1234", "000000000001"}) {
            faulty("t" + run + ";", 1, 1);
            faulty("t1;e" + run + ",0;", 4, 1);
            faulty("t1;e5," + run + ";", 6, 1);
            faulty("t1;s" + run + ",0;", 4, 1);
            faulty("t1;s5," + run + ";", 6, 1);
            faulty(run, 0, 1);
            faulty("t1;" + run, 3, 1);
            faulty("t" + run, 1, 1);
        }
    }

    private static void faultAtTheEnd() {
        check.sentence("the end: how many bytes there are");
        String text = "t9;" + LIES + STRANGERS;
        for (int bytes = 0; bytes <= text.length(); bytes++) {
            String part = text.substring(0, bytes);
            if (part.endsWith(";")) {
                read(part, part.replaceAll("[^s]", "").length());
            } else {
                faulty(part, bytes, 1);
            }
        }
    }

    private static void tapeIsEmptyThen() {
        check.sentence("The tape, empty then, is read: how many STRANGERS there are.");
        NodBets x = Check.town("t1;e5,0;s5,0;");
        check.due("bytes after a town", x.count(6), 0);
        check.due("nothing is left to be read", x.town(), FAULTS);
        Check.feed(x, "t1;e5,0;s5,0");
        check.due("no whole text", x.town(), FAULTS - 12);
        check.due("bytes after a fault", x.count(6), 0);
        check.due("a tape begins anew", x.feed(';'), 1);
        check.due("and is read alone", x.town(), FAULTS);
        String[] texts = {"t1;", "t1;s5,0;", "t1;s5,0;s5,0;", "t1;s5,0;s5,0;s5,0;", "t1;s5,0;s5,0;s5,0;s5,0;"};
        for (int strangers = 0; strangers < texts.length; strangers++) {
            Check.feed(x, texts[strangers]);
            check.due("town()", x.town(), strangers);
        }
    }

    private static void faultLeavesAll() {
        check.sentence("-1000100 less the place of a FAULT: all stays.");
        String[] texts = {"", "t", "t0;", "t2;e5,0;e0", "t2;" + LIES + "e", "t2;s5,0;s5,0;s5,0;s5,0;s", "t2;s5,0;x"};
        for (String text : texts) {
            NodBets x = inUse();
            Check.feed(x, text);
            check.holds("a fault of " + text, x.town() <= FAULTS);
            check.due("status() after " + text, x.status(), 2);
            check.same("all after " + text, afterEmptyTape(x), afterEmptyTape(inUse()));
        }
    }

    private static NodBets inUse() {
        NodBets x = Check.town("t3;e5,0;e9,1;s5,0;s3,2;");
        x.image(0);
        x.tell(0, 0);
        x.supper(1);
        x.ask(0, 1);
        Check.fill(x, 2, 1, 1);
        x.set(2, 9, 9);
        return x;
    }

    /** The reading of an empty tape makes the latest fault the same one for all. */
    private static String afterEmptyTape(NodBets x) {
        x.town();
        return Look.through(x);
    }

    private static void latestFault() {
        check.sentence("The number of the latest FAULT; 0 before one.");
        NodBets x = new NodBets();
        check.due("at first", x.fault(), 0);
        Check.feed(x, "t1;");
        x.town();
        check.due("after a town", x.fault(), 0);
        Check.feed(x, "t0;");
        x.town();
        check.due("2", x.fault(), 2);
        Check.feed(x, "t1;" + LIES + "e");
        check.due("before the reading", x.fault(), 2);
        x.town();
        check.due("3", x.fault(), 3);
        Check.feed(x, "t1;");
        x.town();
        check.due("the latest one, after a town", x.fault(), 3);
        x.town();
        check.due("1", x.fault(), 1);
        check.due("again", x.fault(), 1);
    }
}
