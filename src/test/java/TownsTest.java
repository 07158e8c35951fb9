/** Promises 1, 6, 7, 8 and 32. */
public final class TownsTest {
    private static final Check check = new Check();
    private static final int BAD = NodBets.BAD, STATE = NodBets.STATE, FULL = NodBets.FULL;
    private static final String LIES = "e1,0;a2,1;h3,2;p4,3;l5,0;e20,3;";
    private static final String STRANGERS = "s0,0;s20,15;s5,1;s10,8;";

    public static void main(String[] args) {
        startsWithoutTown();
        feedsTape();
        readsTowns();
        findsFaults();
        keepsLatestFault();
        counts();
        check.end();
    }

    private static void startsWithoutTown() {
        NodBets x = new NodBets();
        for (int what = 0; what <= 6; what++) {
            check.due("count(" + what + ") of a new object", x.count(what), 0);
        }
        check.due("stranger(0, 0)", x.stranger(0, 0), BAD);
        check.due("lie(0, 0)", x.lie(0, 0), BAD);
        check.due("undo()", x.undo(), STATE);
        check.due("image(0)", x.image(0), STATE);
        check.due("restore(0)", x.restore(0), STATE);
        check.due("fault()", x.fault(), 0);
        check.due("status()", x.status(), 0);
        check.due("trace(0)", x.trace(0), NodBets.NONE);
    }

    private static void feedsTape() {
        NodBets x = new NodBets();
        check.due("feed(-1)", x.feed(-1), BAD);
        check.due("feed(256)", x.feed(256), BAD);
        check.due("feed(0)", x.feed(0), 1);
        check.due("feed(255)", x.feed(255), 2);
        for (int i = 3; i <= 120; i++) {
            check.due("feed(65)", x.feed(65), i);
        }
        check.due("feed(65), the tape is full", x.feed(65), FULL);
        check.due("feed(256), BAD is ahead of FULL", x.feed(256), BAD);
        check.due("count(6)", x.count(6), 120);
        check.due("town()", x.town(), -1000100);
        check.due("count(6), the tape is empty", x.count(6), 0);
        check.due("feed(65) after", x.feed(65), 1);
    }

    private static void readsTowns() {
        reads("t1;", 0);
        reads("t9;s0,0;", 1);
        reads("t01;e01,00;s00,00;", 1);
        reads("t5;" + LIES + STRANGERS, 4);
        reads("t5;" + LIES, 0);
        NodBets x = Check.town("t5;" + LIES + STRANGERS);
        int[] weights = {1, 2, 3, 4, 5, 20}, topics = {0, 1, 2, 3, 0, 3}, kinds = {1, 2, 3, 4, 5, 1};
        for (int lie = 0; lie < 6; lie++) {
            check.due("WEIGHT of " + lie, x.lie(lie, 0), weights[lie]);
            check.due("TOPIC of " + lie, x.lie(lie, 1), topics[lie]);
            check.due("KIND of " + lie, x.kind(lie), kinds[lie]);
        }
        int[] trusts = {0, 20, 5, 10}, doubts = {0, 15, 1, 8};
        for (int s = 0; s < 4; s++) {
            check.due("TRUST of " + s, x.stranger(s, 0), trusts[s]);
            check.due("DOUBTS of " + s, x.stranger(s, 1), doubts[s]);
        }
        x.tell(0, 0);
        Check.feed(x, "t2;e7,1;s3,2;s4,5;");
        check.due("a town in place of another", x.town(), 2);
        check.due("count(1) then", x.count(1), 1);
        check.due("PURSE then", x.count(4), 0);
        check.due("ACTS then", x.count(5), 0);
        check.due("undo() then", x.undo(), STATE);
        check.due("nothing was TOLD", x.stranger(0, 2), 0);
        check.due("stranger 2 is gone", x.stranger(2, 0), BAD);
        check.due("lie 1 is gone", x.lie(1, 0), BAD);
    }

    private static void findsFaults() {
        faulty("", 0, 1);
        faulty("x", 0, 1);
        faulty("T1;", 0, 1);
        faulty(" t1;", 0, 1);
        faulty("1;", 0, 1);
        faulty("t", 1, 1);
        faulty("t;", 1, 1);
        faulty("t0;", 1, 2);
        faulty("t10;", 1, 2);
        faulty("t001;", 1, 1);
        faulty("t100;", 1, 1);
        faulty("t1234;", 1, 1);
        faulty("t1", 2, 1);
        faulty("t1,", 2, 1);
        faulty("t1 ;", 2, 1);
        faulty("t1;;", 3, 1);
        faulty("t1;t1;", 3, 1);
        faulty("t1;12", 3, 1);
        faulty("t1;e", 4, 1);
        faulty("t1;e,", 4, 1);
        faulty("t1;e0,0;", 4, 2);
        faulty("t1;e21,0;", 4, 2);
        faulty("t1;e021,0;", 4, 1);
        faulty("t1;e5;", 5, 1);
        faulty("t1;e5,", 6, 1);
        faulty("t1;e5,4;", 6, 2);
        faulty("t1;e5,000;", 6, 1);
        faulty("t1;e5,3", 7, 1);
        faulty("t1;e5,3,", 7, 1);
        faulty("t1;s", 4, 1);
        faulty("t1;s21,0;", 4, 2);
        faulty("t1;s20;", 6, 1);
        faulty("t1;s20,16;", 7, 2);
        faulty("t1;s20,15", 9, 1);
        faulty("t1;s20,15;e1,0;", 10, 1);
        faulty("t1;s20,15;" + (char) 233, 10, 1);
        faulty("t1;" + LIES + "e1,0;", 34, 3);
        faulty("t1;" + LIES + "l", 34, 3);
        faulty("t1;" + LIES + "b", 34, 1);
        faulty("t1;" + STRANGERS + "s1,0;", 26, 3);
        faulty("t1;" + STRANGERS + "e1,0;", 26, 1);
        faulty("t1;" + LIES + STRANGERS + "s", 57, 3);
        faulty("t1;" + LIES + "s30,0;", 35, 2);
    }

    private static void reads(String text, int strangers) {
        NodBets x = new NodBets();
        Check.feed(x, text);
        check.due("town() of " + text, x.town(), strangers);
        check.due("count(6) after " + text, x.count(6), 0);
        check.due("fault() after " + text, x.fault(), 0);
    }

    private static void faulty(String text, int place, int number) {
        NodBets x = Check.town("t3;e5,0;s5,0;");
        x.tell(0, 0);
        Check.feed(x, text);
        check.due("town() of " + text, x.town(), -1000100 - place);
        check.due("fault() of " + text, x.fault(), number);
        check.due("the tape is empty after " + text, x.count(6), 0);
        check.due("STAKE stays after " + text, x.count(3), 3);
        check.due("PURSE stays after " + text, x.count(4), 3);
        check.due("LIES stay after " + text, x.count(1), 1);
        check.due("WEIGHT stays after " + text, x.lie(0, 0), 5);
        check.due("TRUST stays after " + text, x.stranger(0, 0), 6);
        check.due("ACTS stay after " + text, x.count(5), 1);
    }

    private static void keepsLatestFault() {
        NodBets x = new NodBets();
        Check.feed(x, "t0;");
        x.town();
        check.due("fault()", x.fault(), 2);
        Check.feed(x, "t1;");
        check.due("town()", x.town(), 0);
        check.due("fault() is of the latest FAULT", x.fault(), 2);
        x.town();
        check.due("fault() then", x.fault(), 1);
    }

    private static void counts() {
        NodBets x = Check.town("t7;e5,0;e6,1;h4,2;s5,0;s0,0;");
        x.row(3, 0, 1);
        x.row(4, 0, 1);
        x.feed(1);
        x.tell(0, 0);
        x.tell(1, 1);
        x.supper(0);
        int[] due = {2, 3, 2, 7, -1, 3, 1};
        for (int what = 0; what < due.length; what++) {
            check.due("count(" + what + ")", x.count(what), due[what]);
        }
        check.due("count(7)", x.count(7), BAD);
        check.due("count(-1)", x.count(-1), BAD);
    }
}
