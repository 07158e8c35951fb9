/** Promises 16 to 21. */
public final class ForetoldTest {
    private static final Check check = new Check();
    private static final int NONE = NodBets.NONE, BAD = NodBets.BAD, STATE = NodBets.STATE;

    public static void main(String[] args) {
        nods();
        orders();
        comesIn();
        dead();
        helps();
        suppers();
        changesNothing();
        check.end();
    }

    private static void nods() {
        NodBets x = Check.town("t1;e5,0;e6,1;e7,2;s6,0;s6,1;");
        check.due("nods(0)", x.nods(0), 3);
        check.due("nods(1), a doubt", x.nods(1), 2);
        x.tell(0, 0);
        check.due("nods(0), but what was TOLD", x.nods(0), 6);
        check.due("nods(2)", x.nods(2), BAD);
        check.due("nods(-1)", x.nods(-1), BAD);
    }

    private static void orders() {
        NodBets x = Check.town("t1;e7,0;e5,1;e6,2;e20,3;s5,0;s0,0;");
        check.due("at how many", x.order(0, 7, -1), 3);
        order(x, 0, 7, 1, 2, 0);
        check.due("no fourth", x.order(0, 7, 3), NONE);
        check.due("the absurdly heavy one", x.order(0, 15, -1), 3);
        order(x, 0, 15, 1, 2, 0, 3);
        check.due("at none", x.order(1, 15, -1), 0);
        order(x, 1, 15, 0, 1, 2, 3);
        check.due("of no lies", x.order(0, 0, -1), 0);
        check.due("of no lies, the first", x.order(0, 0, 0), NONE);
        check.due("one", x.order(0, 8, -1), 0);
        check.due("one, the first", x.order(0, 8, 0), 3);
        check.due("of several the first", Check.town("t1;e5,0;e5,1;s9,0;").order(0, 3, 0), 0);
        check.due("no set", x.order(0, 16, -1), BAD);
        check.due("no set, below 0", x.order(0, -1, -1), BAD);
        check.due("k -2", x.order(0, 7, -2), BAD);
        check.due("k 6", x.order(0, 7, 6), BAD);
        check.due("k 5", x.order(0, 7, 5), NONE);
        check.due("no stranger", x.order(2, 7, -1), BAD);
        x.tell(0, 1);
        check.due("TOLD one of these", x.order(0, 7, -1), STATE);
        check.due("BAD is ahead of STATE", x.order(0, 7, 6), BAD);
        check.due("TOLD none of these", x.order(0, 5, -1), 2);
        check.due("of no lies, TOLD one", x.order(0, 0, -1), 0);
    }

    private static void order(NodBets x, int stranger, int lies, int... due) {
        for (int k = 0; k < due.length; k++) {
            check.due("order(" + stranger + ", " + lies + ", " + k + ")", x.order(stranger, lies, k), due[k]);
        }
    }

    private static void comesIn() {
        NodBets x = Check.town("t1;e7,0;e5,1;e6,2;p9,2;l3,3;s5,0;");
        comes(x, 1, 0, NONE);
        comes(x, 2, 1, 1);
        comes(x, 0, 2, 1);
        comes(x, 3, 2, 1);
        comes(x, 4, NONE, NONE);
        x.tell(0, 1);
        comes(x, 0, 1, 2);
        check.due("it was TOLD it", x.comesIn(0, 1, 0), STATE);
        check.due("what 2", x.comesIn(0, 1, 2), BAD);
        check.due("what -1", x.comesIn(0, 0, -1), BAD);
        check.due("no such lie", x.comesIn(0, 5, 0), BAD);
        check.due("no such stranger", x.comesIn(1, 0, 0), BAD);
        NodBets y = Check.town("t1;e9,3;e1,1;e2,2;l3,1;s5,0;");
        comes(y, 3, 2, 0);
        NodBets z = Check.town("t1;e9,3;e9,1;l3,0;e1,0;s5,0;");
        comes(z, 2, 2, 0);
    }

    private static void comes(NodBets x, int lie, int ahead, int first) {
        check.due("comesIn(0, " + lie + ", 0)", x.comesIn(0, lie, 0), ahead);
        check.due("comesIn(0, " + lie + ", 1)", x.comesIn(0, lie, 1), first);
    }

    private static void dead() {
        NodBets x = Check.town("t1;e7,0;e5,1;e6,2;e9,0;p5,3;l5,3;s5,0;s0,0;s20,0;");
        check.due("dead(0)", x.dead(0), 56);
        check.due("dead(1)", x.dead(1), 63);
        check.due("dead(2)", x.dead(2), 48);
        x.tell(0, 1);
        x.tell(0, 3);
        check.due("dead(0), but what was TOLD", x.dead(0), 53);
        check.due("dead(3)", x.dead(3), BAD);
        check.due("dead(-1)", x.dead(-1), BAD);
        check.due("no lies", Check.town("t1;s5,0;").dead(0), 0);
    }

    private static void helps() {
        NodBets x = Check.town("t1;e6,0;e5,1;e6,2;e5,2;s5,0;");
        check.due("pairs", x.help(0, 0), 4);
        check.due("the first", x.help(0, 1), 1);
        x.tell(0, 1);
        check.due("pairs then", x.help(0, 0), 0);
        check.due("the first then", x.help(0, 1), NONE);
        NodBets y = Check.town("t1;e9,3;e5,1;e9,2;e6,0;s5,0;");
        check.due("pairs of y", y.help(0, 0), 1);
        check.due("the first of y", y.help(0, 1), 13);
        NodBets z = Check.town("t1;e9,3;e9,1;l3,1;p1,2;e1,1;s9,0;");
        z.tell(0, 4);
        check.due("pairs of z", z.help(0, 0), 3);
        check.due("the first of z", z.help(0, 1), 2);
        NodBets unnodded = Check.town("t1;e20,3;e5,1;l3,1;s9,0;");
        unnodded.tell(0, 1);
        check.due("a lie that is not NODDED at helps, too", unnodded.help(0, 1), 2);
        check.due("what 2", x.help(0, 2), BAD);
        check.due("what -1", x.help(0, -1), BAD);
        check.due("no such stranger", x.help(1, 0), BAD);
    }

    private static void suppers() {
        NodBets x = Check.town("t1;e5,0;e6,0;e7,0;e20,0;p5,0;a11,0;s5,0;s0,0;s0,1;");
        int[] due = {0, 1, 1, 8, NONE, NONE};
        for (int lie = 0; lie < 6; lie++) {
            check.due("suppers(0, " + lie + ")", x.suppers(0, lie), due[lie]);
        }
        check.due("ten", x.suppers(1, 3), 10);
        check.due("20 at most", x.suppers(2, 3), NONE);
        x.tell(0, 0);
        check.due("it was TOLD it", x.suppers(0, 0), STATE);
        check.due("a proof then", x.suppers(0, 4), 0);
        check.due("no such lie", x.suppers(0, 6), BAD);
        check.due("no such stranger", x.suppers(3, 0), BAD);
    }

    private static void changesNothing() {
        NodBets x = Check.town("t1;e7,0;e5,1;e6,2;p9,2;s5,0;");
        x.order(0, 15, -1);
        x.comesIn(0, 0, 1);
        x.dead(0);
        x.help(0, 0);
        x.suppers(0, 3);
        x.nods(0);
        check.due("TRUST", x.stranger(0, 0), 5);
        check.due("TOLD", x.stranger(0, 2), 0);
        check.due("PURSE", x.count(4), 0);
        check.due("ACTS", x.count(5), 0);
    }
}
