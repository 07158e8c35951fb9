/** The edges that the document names of images, kinds, asks and counts: section 4, promises 26 to 33. */
public final class AsksEdgesTest {
    private static final Check check = new Check();
    private static final int NONE = NodBets.NONE, BAD = NodBets.BAD, STATE = NodBets.STATE;
    private static final int KIND = -1000013;
    private static final int MIN = Integer.MIN_VALUE, MAX = Integer.MAX_VALUE;
    private static final String FIVE = "t1;e5,0;a6,0;h7,0;p8,0;l9,0;";

    public static void main(String[] args) {
        keepsAnImage();
        refusesImages();
        restoresTheTown();
        noActAfterRestore();
        refusesRestores();
        kinds();
        refusesKinds();
        takesAs();
        refusesAs();
        sizes();
        marks();
        marksByNods();
        refusesAsks();
        emptyTrace();
        tracesTheEnds();
        counts();
        refusesCounts();
        statusOfAs();
        check.end();
    }

    private static void keepsAnImage() {
        check.sentence("An IMAGE (0, 1) is kept of the TOWN: 1.");
        NodBets x = Check.town("t3;e5,0;e9,1;s5,0;s3,2;");
        check.due("image(0)", x.image(0), 1);
        x.tell(0, 0);
        String ahead = Look.at(x);
        check.due("image(1)", x.image(1), 1);
        check.same("all stays, ACTS as well", Look.at(x), ahead);
        x.supper(0);
        check.due("restore(0)", x.restore(0), 1);
        check.due("of the first", x.stranger(0, 2), 0);
        check.due("restore(1)", x.restore(1), 1);
        check.due("of the second", x.stranger(0, 2), 1);
        check.due("in place of the other", x.image(0), 1);
        x.supper(0);
        check.due("restore(0) again", x.restore(0), 1);
        check.due("the latest one is kept", x.stranger(0, 2), 1);
        check.due("a law alone is a TOWN", Check.town("t1;").image(0), 1);
    }

    private static void refusesImages() {
        check.sentence("image: BAD; STATE: no TOWN.");
        NodBets x = new NodBets();
        NodBets y = Check.town("t1;");
        for (int k : new int[] {-1, 2, MIN, MAX}) {
            check.due("image(" + k + "), no TOWN", x.image(k), BAD);
            check.due("image(" + k + ")", y.image(k), BAD);
        }
        check.due("image(0), no TOWN", x.image(0), STATE);
        check.due("image(1), no TOWN", x.image(1), STATE);
        x.town();
        check.due("image(0), no TOWN, a FAULT", x.image(0), STATE);
        check.due("none was kept", x.restore(0), STATE);
    }

    private static void restoresTheTown() {
        check.sentence("The TOWN is as an IMAGE kept it");
        NodBets x = Check.town("t3;e5,0;e9,1;s5,0;s3,2;");
        x.tell(0, 0);
        x.tell(1, 0);
        x.tell(1, 1);
        x.supper(1);
        x.forget(1, 0);
        x.image(1);
        int[] due = {6, 0, 1, 1, 2, 2, 2, 0};
        Check.feed(x, "t9;h1,3;h1,3;h1,3;s0,15;s0,15;s20,15;");
        x.town();
        x.tell(2, 2);
        x.image(0);
        check.due("restore(1)", x.restore(1), 1);
        for (int i = 0; i < 8; i++) {
            check.due("stranger(" + i / 4 + ", " + i % 4 + ")", x.stranger(i / 4, i % 4), due[i]);
        }
        check.due("LIES, STRANGERS, STAKE", x.count(1) * 100 + x.count(2) * 10 + x.count(3), 223);
        check.due("PURSE", x.count(4), 3 - 3 - 3 - 1);
        check.due("lie(1, 0)", x.lie(1, 0), 9);
        check.due("lie(1, 1)", x.lie(1, 1), 1);
        check.due("lie(1, 2)", x.lie(1, 2), 1);
        check.due("lie(0, 3)", x.lie(0, 3), 1);
        check.due("kind(0)", x.kind(0), 1);
        check.due("no third stranger", x.stranger(2, 0), BAD);
        check.due("no third lie", x.lie(2, 0), BAD);
        check.due("restore(0)", x.restore(0), 1);
        check.due("a third stranger", x.stranger(2, 3), 4);
        check.due("a third lie", x.kind(2), 3);
    }

    private static void noActAfterRestore() {
        check.sentence("(no ACT can be undone then): 1");
        NodBets x = Check.town("t3;e5,0;s5,0;");
        x.image(0);
        x.supper(0);
        x.supper(0);
        check.due("restore(0)", x.restore(0), 1);
        check.due("count(5)", x.count(5), 0);
        check.due("undo()", x.undo(), STATE);
        x.supper(0);
        check.due("those that come then can be", x.undo(), 0);
        check.due("TRUST", x.stranger(0, 0), 5);
        x.supper(0);
        x.image(0);
        check.due("an IMAGE of now", x.restore(0), 1);
        check.due("no ACT either", x.undo(), STATE);
        check.due("TRUST then", x.stranger(0, 0), 7);
    }

    private static void refusesRestores() {
        check.sentence("restore: BAD; STATE: none was kept.");
        NodBets x = Check.town("t3;e5,0;s5,0;");
        x.supper(0);
        for (int k : new int[] {-1, 2, MIN, MAX}) {
            check.due("restore(" + k + ")", x.restore(k), BAD);
        }
        check.due("restore(0)", x.restore(0), STATE);
        check.due("restore(1)", x.restore(1), STATE);
        x.image(0);
        check.due("restore(1), the other was kept", x.restore(1), STATE);
        check.due("ACTS stay", x.count(5), 1);
        NodBets y = Check.town("t3;");
        y.image(1);
        check.due("restore(0), the other was kept", y.restore(0), STATE);
        check.due("restore(1), a law alone", y.restore(1), 1);
    }

    private static void kinds() {
        check.sentence("KINDS of LIES: 0 LIE; 1 EASY, a LIE; 2 ABSURD, an EASY; 3 HABIT, an EASY; 4 PROOF, a LIE; "
                + "5 LAME, a PROOF. The KIND of a LIE, as told (1 to 5).");
        NodBets x = Check.town(FIVE);
        for (int lie = 0; lie < 5; lie++) {
            check.due("kind(" + lie + ")", x.kind(lie), lie + 1);
        }
    }

    private static void refusesKinds() {
        check.sentence("kind: BAD.");
        NodBets x = Check.town(FIVE);
        for (int lie : new int[] {-1, 5, 6, MIN, MAX}) {
            check.due("kind(" + lie + ")", x.kind(lie), BAD);
        }
        check.due("no TOWN", new NodBets().kind(0), BAD);
        check.due("no LIES", Check.town("t1;").kind(0), BAD);
    }

    private static void takesAs() {
        check.sentence("A LIE is taken as one of a KIND (0 .. 5): its number. .. KIND: it is no such one.");
        NodBets x = Check.town(FIVE);
        boolean[][] is = {
            {true, true, false, false, false, false},
            {true, true, true, false, false, false},
            {true, true, false, true, false, false},
            {true, false, false, false, true, false},
            {true, false, false, false, true, true}};
        for (int lie = 0; lie < 5; lie++) {
            for (int kind = 0; kind < 6; kind++) {
                check.due("as(" + lie + ", " + kind + ")", x.as(lie, kind), is[lie][kind] ? lie : KIND);
            }
        }
    }

    private static void refusesAs() {
        check.sentence("as: BAD");
        NodBets x = Check.town(FIVE);
        for (int lie : new int[] {-1, 5, 6, MIN, MAX}) {
            check.due("as(" + lie + ", 0)", x.as(lie, 0), BAD);
        }
        for (int kind : new int[] {-1, 6, MIN, MAX}) {
            check.due("as(0, " + kind + ")", x.as(0, kind), BAD);
        }
        check.due("no TOWN", new NodBets().as(0, 0), BAD);
    }

    private static void asked(NodBets x, int lie, int what, int due, int... bodies) {
        String call = "ask(" + lie + ", " + what + ")";
        check.due(call, x.ask(lie, what), due);
        for (int i = 0; i < 18; i++) {
            check.due("trace(" + i + ") of " + call, x.trace(i), i < bodies.length ? bodies[i] : NONE);
        }
    }

    private static void sizes() {
        check.sentence("0 SIZE .. (Of an ask the BODY told for the KIND begins, else that of the nearest KIND that it "
                + "is, too .. SIZE, MARK within others are asked of the same LIE anew.)");
        NodBets x = Check.town(FIVE);
        asked(x, 0, 0, 5, 11, 10, 21, 20);
        asked(x, 1, 0, -(6 + 2), 12, 11, 10, 24, 21, 20);
        asked(x, 2, 0, 7 + 2 - 1000, 11, 10, 22, 21, 20);
        asked(x, 3, 0, 8 - 100, 13, 10);
        asked(x, 4, 0, 2 * (9 - 100), 14, 13, 10);
    }

    private static void marks() {
        check.sentence("1 MARK .. each of which leaves its number in THE TRACE as it begins");
        NodBets x = Check.town(FIVE);
        asked(x, 0, 1, 0, 21, 20);
        asked(x, 1, 1, 2, 24, 21, 20);
        asked(x, 2, 1, 2 - 1000, 22, 21, 20);
        asked(x, 3, 1, 3 + 92, 23, 20, 13, 10);
        asked(x, 4, 1, 4 + 182, 23, 20, 14, 13, 10);
    }

    private static void marksByNods() {
        check.sentence("21 of EASY ones: what 20 gives, and at how many strangers' NODS it was TOLD");
        NodBets x = Check.town("t1;e20,0;e1,0;s1,0;s1,0;s1,0;s1,0;");
        for (int s = 0; s < 4; s++) {
            check.due("MARK, NODS " + s, x.ask(1, 1), 1 + s);
            check.due("SIZE, NODS " + s, x.ask(1, 0), 1 + 1 + s);
            x.tell(s, 1);
            x.tell(s, 0);
        }
        check.due("MARK, all NODDED", x.ask(1, 1), 5);
        check.due("MARK, TOLD to all, NODDED at by none", x.ask(0, 1), 0);
        x.forget(2, 1);
        check.due("MARK, one forgot", x.ask(1, 1), 4);
        NodBets y = Check.town("t1;a1,0;h1,0;p1,0;s20,0;s20,0;");
        for (int s = 0; s < 2; s++) {
            y.tell(s, 0);
            y.tell(s, 1);
            y.tell(s, 2);
        }
        check.due("of an ABSURD one, twice", y.ask(0, 1), 2 * 2);
        check.due("of a HABIT, less 1000", y.ask(1, 1), 1 + 2 - 1000);
        check.due("of a PROOF, none counts", y.ask(2, 1), 2 + 99);
    }

    private static void refusesAsks() {
        check.sentence("An ASK (0, 1) of a LIE. BAD.");
        NodBets x = Check.town(FIVE);
        for (int lie : new int[] {-1, 5, 6, MIN, MAX}) {
            check.due("ask(" + lie + ", 0)", x.ask(lie, 0), BAD);
            check.due("ask(" + lie + ", 1)", x.ask(lie, 1), BAD);
        }
        for (int what : new int[] {-1, 2, MIN, MAX}) {
            check.due("ask(0, " + what + ")", x.ask(0, what), BAD);
        }
        check.due("no TOWN", new NodBets().ask(0, 0), BAD);
    }

    private static void emptyTrace() {
        check.sentence("THE TRACE is empty ahead of it.");
        NodBets x = Check.town(FIVE);
        check.due("at first", x.trace(0), NONE);
        x.ask(1, 0);
        check.due("the sixth", x.trace(5), 20);
        x.ask(3, 0);
        check.due("a shorter one: the first", x.trace(0), 13);
        check.due("a shorter one: the second", x.trace(1), 10);
        check.due("a shorter one: the third", x.trace(2), NONE);
        for (int i = 0; i < 20; i++) {
            x.ask(0, 1);
        }
        check.due("after many: the first", x.trace(0), 21);
        check.due("after many: the third", x.trace(2), NONE);
        x.ask(5, 0);
        x.ask(0, 2);
        check.due("a refused one leaves it", x.trace(1), 20);
    }

    private static void tracesTheEnds() {
        check.sentence("Number i of THE TRACE; NONE. .. (the first 16)");
        NodBets x = Check.town(FIVE);
        // No ask begins more than six bodies, so that the sixteenth is never there.
        x.ask(1, 0);
        check.due("the first", x.trace(0), 12);
        check.due("the last", x.trace(5), 20);
        for (int i : new int[] {-1, 6, 15, 16, 17, MIN, MAX}) {
            check.due("trace(" + i + ")", x.trace(i), NONE);
        }
    }

    private static void counts() {
        check.sentence("How many: 0 ROWS, 1 LIES, 2 STRANGERS, 3 STAKE, 4 PURSE, 5 ACTS that can be undone, "
                + "6 bytes on the tape.");
        NodBets x = new NodBets();
        counted("at first", x, 0, 0, 0, 0, 0, 0, 0);
        for (int row = 0; row < 8; row++) {
            x.row(row, 0, row);
        }
        Check.feed(x, "t9;e1,0;e1,0;e1,0;e1,0;e1,0;e20,0;s1,0;s1,0;s1,0;s1,0;");
        counted("ahead of the town", x, 8, 0, 0, 0, 0, 0, 54);
        x.town();
        counted("the fullest town", x, 8, 6, 4, 9, 0, 0, 0);
        for (int s = 0; s < 4; s++) {
            for (int lie = 0; lie < 6; lie++) {
                x.tell(s, lie);
            }
        }
        counted("all TOLD", x, 8, 6, 4, 9, 4 * (5 - 1) * 9, 24, 0);
        x.supper(0);
        counted("one ACT more", x, 8, 6, 4, 9, 143, 24, 0);
        x.drop(0);
        for (int i = 0; i < 121; i++) {
            x.feed(0);
        }
        counted("a full tape", x, 7, 6, 4, 9, 143, 24, 120);
        x.town();
        counted("a FAULT", x, 7, 6, 4, 9, 143, 24, 0);
    }

    private static void counted(String what, NodBets x, int... due) {
        for (int of = 0; of < due.length; of++) {
            check.due("count(" + of + "), " + what, x.count(of), due[of]);
        }
    }

    private static void refusesCounts() {
        check.sentence("count: BAD.");
        NodBets x = Check.town(FIVE);
        for (int what : new int[] {-1, 7, MIN, MAX}) {
            check.due("count(" + what + ")", x.count(what), BAD);
        }
    }

    private static void statusOfAs() {
        check.sentence("Of the latest call with a ROW, or as(), that was not BAD, STATE, FULL: the number of its "
                + "FINDING; 0: it had none, or there was none.");
        NodBets x = Check.town(FIVE);
        check.due("there was none", x.status(), 0);
        x.as(0, 2);
        check.due("KIND", x.status(), 3);
        x.as(0, 6);
        x.as(5, 0);
        check.due("BAD leaves it", x.status(), 3);
        x.ask(0, 0);
        x.kind(0);
        x.kind(9);
        x.undo();
        x.image(0);
        x.restore(1);
        x.count(0);
        x.trace(0);
        check.due("calls without a ROW leave it", x.status(), 3);
        x.as(0, 1);
        check.due("as() had none", x.status(), 0);
        x.as(3, 5);
        check.due("KIND again", x.status(), 3);
        x.row(0, 0, 1);
        check.due("a ROW had none", x.status(), 0);
        x.set(0, 1, 1);
        x.restore(0);
        check.due("an IMAGE keeps no status()", x.status(), 2);
        x.as(0, 0);
        check.due("as() had none, after PLACE", x.status(), 0);
    }
}
