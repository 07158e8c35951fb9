/** Promises 9 to 15. */
public final class ActsTest {
    private static final Check check = new Check();
    private static final int BAD = NodBets.BAD, STATE = NodBets.STATE;

    public static void main(String[] args) {
        tellsLies();
        boundsTrust();
        eats();
        forgets();
        undoes();
        forgetsOldestActs();
        showsLiesAndStrangers();
        needs();
        check.end();
    }

    private static void tellsLies() {
        NodBets x = Check.town("t4;e5,0;e8,1;a3,2;s5,0;s7,1;");
        check.due("trust is need", x.tell(0, 0), 1);
        check.due("TRUST 1 more", x.stranger(0, 0), 6);
        check.due("PURSE is STAKE more", x.count(4), 4);
        check.due("trust is below need", x.tell(0, 1), 0);
        check.due("TRUST less by 8 / 4 and 1", x.stranger(0, 0), 3);
        check.due("PURSE is STAKE less", x.count(4), 0);
        check.due("TOLD", x.stranger(0, 2), 3);
        check.due("NODDED", x.stranger(0, 3), 1);
        check.due("once", x.tell(0, 0), STATE);
        check.due("once, if not nodded too", x.tell(0, 1), STATE);
        check.due("a refused one is no ACT", x.count(5), 2);
        check.due("a doubt is 3 more", x.tell(1, 0), 0);
        check.due("TRUST less by 5 / 4 and 1", x.stranger(1, 0), 5);
        check.due("the first one's TRUST stays", x.stranger(0, 0), 3);
        check.due("no such stranger", x.tell(2, 0), BAD);
        check.due("no such lie", x.tell(0, 3), BAD);
        check.due("stranger below 0", x.tell(-1, 0), BAD);
        check.due("lie below 0", x.tell(0, -1), BAD);
        check.due("BAD is ahead of STATE", x.tell(4, 0), BAD);
    }

    private static void boundsTrust() {
        NodBets x = Check.town("t1;e5,0;e20,1;s20,0;s2,0;");
        x.tell(0, 0);
        check.due("TRUST 20 at most", x.stranger(0, 0), 20);
        x.tell(1, 1);
        check.due("TRUST 0 at least", x.stranger(1, 0), 0);
    }

    private static void eats() {
        NodBets x = Check.town("t9;s17,0;s0,0;");
        check.due("supper", x.supper(0), 19);
        check.due("supper, 20 at most", x.supper(0), 20);
        check.due("supper, still 20", x.supper(0), 20);
        check.due("PURSE is 1 less each", x.count(4), -3);
        check.due("the other one's TRUST stays", x.stranger(1, 0), 0);
        check.due("no such stranger", x.supper(2), BAD);
        check.due("stranger below 0", x.supper(-1), BAD);
        check.due("undone", x.undo(), 2);
        check.due("undone again", x.undo(), 1);
        check.due("TRUST then", x.stranger(0, 0), 19);
    }

    private static void forgets() {
        NodBets x = Check.town("t4;e5,0;h8,0;s6,0;");
        check.due("was not told", x.forget(0, 0), STATE);
        x.tell(0, 0);
        x.tell(0, 1);
        check.due("TRUST", x.stranger(0, 0), 8);
        check.due("forget", x.forget(0, 0), 1);
        check.due("TOLD", x.stranger(0, 2), 2);
        check.due("NODDED", x.stranger(0, 3), 2);
        check.due("TRUST stays", x.stranger(0, 0), 8);
        check.due("PURSE stays", x.count(4), 8);
        check.due("again", x.forget(0, 0), STATE);
        check.due("told anew", x.tell(0, 0), 1);
        check.due("undone", x.undo(), 3);
        check.due("the forgetting undone", x.undo(), 2);
        check.due("TOLD as ahead", x.stranger(0, 2), 3);
        check.due("NODDED as ahead", x.stranger(0, 3), 3);
        check.due("both", x.forget(0, 1) + 10 * x.forget(0, 0), 1);
        check.due("no such stranger", x.forget(1, 0), BAD);
        check.due("no such lie", x.forget(0, 2), BAD);
    }

    private static void undoes() {
        NodBets x = Check.town("t4;e5,0;e9,0;s5,0;s5,0;");
        check.due("none", x.undo(), STATE);
        x.tell(0, 1);
        x.supper(1);
        x.tell(1, 0);
        check.due("the latest first", x.undo(), 2);
        check.due("TRUST of 1", x.stranger(1, 0), 7);
        check.due("TOLD of 1", x.stranger(1, 2), 0);
        check.due("NODDED of 1", x.stranger(1, 3), 0);
        check.due("PURSE", x.count(4), -5);
        check.due("the supper", x.undo(), 1);
        check.due("TRUST of 1 then", x.stranger(1, 0), 5);
        check.due("the first", x.undo(), 0);
        check.due("TRUST of 0", x.stranger(0, 0), 5);
        check.due("PURSE at first", x.count(4), 0);
        check.due("none then", x.undo(), STATE);
    }

    private static void forgetsOldestActs() {
        NodBets x = Check.town("t4;e5,0;s0,0;s5,0;");
        x.tell(1, 0);
        for (int i = 0; i < 24; i++) {
            x.supper(0);
        }
        check.due("24 at most", x.count(5), 24);
        for (int i = 23; i >= 0; i--) {
            check.due("undo()", x.undo(), i);
        }
        check.due("the oldest is forgotten", x.undo(), STATE);
        check.due("and stands", x.stranger(1, 2), 1);
        check.due("with its PURSE", x.count(4), 4);
        check.due("TRUST at first", x.stranger(0, 0), 0);
    }

    private static void showsLiesAndStrangers() {
        NodBets x = Check.town("t4;e5,2;e9,1;s5,0;s4,0;s6,15;");
        x.tell(0, 0);
        x.tell(1, 0);
        x.tell(2, 0);
        check.due("how many were TOLD", x.lie(0, 2), 3);
        check.due("how many NODDED", x.lie(0, 3), 1);
        check.due("of the other", x.lie(1, 2) + x.lie(1, 3), 0);
        x.forget(0, 0);
        check.due("how many were TOLD then", x.lie(0, 2), 2);
        check.due("how many NODDED then", x.lie(0, 3), 0);
        check.due("lie(0, 4)", x.lie(0, 4), BAD);
        check.due("lie(0, -1)", x.lie(0, -1), BAD);
        check.due("lie(2, 0)", x.lie(2, 0), BAD);
        check.due("lie(-1, 0)", x.lie(-1, 0), BAD);
        check.due("stranger(0, 4)", x.stranger(0, 4), BAD);
        check.due("stranger(0, -1)", x.stranger(0, -1), BAD);
        check.due("stranger(3, 0)", x.stranger(3, 0), BAD);
        check.due("stranger(-1, 0)", x.stranger(-1, 0), BAD);
        check.due("stranger(2, 1)", x.stranger(2, 1), 15);
    }

    private static void needs() {
        NodBets x = Check.town("t1;e7,0;a7,0;h3,0;p7,0;l7,0;e1,1;s20,0;s20,1;");
        int[] fresh = {7, 14, 3, 27, 99, 1}, doubting = {10, 17, 6, 30, 102, 1};
        for (int lie = 0; lie < 6; lie++) {
            check.due("need(0, " + lie + ")", x.need(0, lie), fresh[lie]);
            check.due("need(1, " + lie + ")", x.need(1, lie), doubting[lie]);
        }
        x.tell(0, 5);
        check.due("a NOD at another TOPIC", x.need(0, 3), 27);
        check.due("a habit then", x.need(0, 2), 3);
        x.tell(0, 0);
        check.due("a proof with a NOD", x.need(0, 3), 0);
        check.due("a habit with a NOD", x.need(0, 2), 1);
        check.due("a lame one after two", x.need(0, 4), 0);
        x.tell(0, 1);
        check.due("a habit with two NODS, 0 at least", x.need(0, 2), 0);
        x.tell(1, 5);
        check.due("a lame one after one", x.need(1, 4), 102);
        x.tell(1, 0);
        x.tell(1, 1);
        check.due("a habit, 3 more than 0", x.need(1, 2), 3);
        check.due("a proof, 3 more than 0", x.need(1, 3), 3);
        x.forget(0, 0);
        x.forget(0, 1);
        check.due("a lame one after forgetting", x.need(0, 4), 99);
        check.due("a proof after forgetting", x.need(0, 3), 27);
        check.due("a lie that was TOLD", x.need(1, 0), 10);
        check.due("need(2, 0)", x.need(2, 0), BAD);
        check.due("need(0, 6)", x.need(0, 6), BAD);
        check.due("need(-1, 0)", x.need(-1, 0), BAD);
        check.due("need(0, -1)", x.need(0, -1), BAD);
        lameWithoutNods();
        ownNodCounts();
    }

    private static void lameWithoutNods() {
        NodBets x = Check.town("t1;e9,0;e9,0;l4,1;s1,0;");
        x.tell(0, 0);
        check.due("TOLD one", x.need(0, 2), 99);
        x.tell(0, 1);
        check.due("TOLD two, NODDED at none", x.need(0, 2), 24);
    }

    private static void ownNodCounts() {
        NodBets x = Check.town("t1;h6,0;s6,0;");
        x.tell(0, 0);
        check.due("a habit that was NODDED at counts, too", x.need(0, 0), 4);
    }
}
