/** Promises 22 to 25, and 33 as far as they go. */
public final class TellingsTest {
    private static final Check check = new Check();
    private static final int NONE = NodBets.NONE, BAD = NodBets.BAD, STATE = NodBets.STATE;
    private static final int NULL = -1000011, PLACE = -1000012;

    public static void main(String[] args) {
        doubts();
        trusts();
        tellsWho();
        countsOnceMore();
        odds();
        refuses();
        refusesOddly();
        leavesAllAsItIs();
        check.end();
    }

    private static void doubts() {
        NodBets x = Check.town("t1;e5,0;e7,2;s6,15;");
        Check.fill(x, 0, 0, 1, 1, 1, 1, 0, 0, 0);
        check.due("none told: how many", x.doubted(0, 0, 0, 0, 0), 16);
        check.due("none told: the least", x.doubted(0, 0, 0, 0, 1), 0);
        check.due("a nod at topic 0: how many", x.doubted(0, 0, 0, 1, 0), 8);
        check.due("a nod at topic 0: the least", x.doubted(0, 0, 0, 1, 1), 0);
        check.due("nods at topics 0, 2: how many", x.doubted(0, 0, 0, 2, 0), 4);
        check.due("no nod at topic 0: the least", x.doubted(0, 0, 6, 1, 1), 1);
        check.due("no nod at topic 0: how many", x.doubted(0, 0, 6, 1, 0), 8);
        check.due("a nod at topic 2 alone: how many", x.doubted(0, 0, 2, 1, 0), 0);
        check.due("a nod at topic 2 alone: the least", x.doubted(0, 0, 2, 1, 1), NONE);
        check.due("status()", x.status(), 0);
        Check.fill(x, 1, 0, 0, 1, 0);
        check.due("no nod at topics 0, 2", x.doubted(0, 1, 0, 2, 0), 8);
    }

    private static void trusts() {
        NodBets x = Check.town("t1;e5,0;e7,2;s6,1;");
        Check.fill(x, 0, 0, 1, 1, 0);
        check.due("none told", x.trusted(0, 0, 4, 0), 2097151);
        check.due("nods at 8 or more", x.trusted(0, 0, 0, 1), 2097151 & ~255);
        check.due("nods at 8 or more, then not below 7", x.trusted(0, 0, 0, 2), 0);
        Check.fill(x, 0, 0, 0, 1, 1);
        check.due("not at 7 or less, then above 6", x.trusted(0, 0, 0, 2), 0);
        check.due("not at 6 or less", x.trusted(0, 0, 2, 1), 2097151 & ~127);
        x.tell(0, 0);
        Check.fill(x, 0, 1, 0);
        check.due("what was TOLD stays", x.trusted(0, 0, 0, 1), 127);
    }

    private static void tellsWho() {
        NodBets x = Check.town("t1;e5,0;e7,2;s6,0;s4,0;s20,15;s5,1;");
        Check.fill(x, 0, 0, 1, 1, 1, 1, 0);
        check.due("none told", x.who(0, 0, 0), 15);
        check.due("a nod at 0", x.who(0, 0, 1), 5);
        check.due("nods at 0, 1", x.who(0, 0, 2), 5);
        check.due("no nod at 1", x.who(0, 4, 1), 11);
        check.due("no nod is told by 2", whoNods(x, 2), 0);
        check.due("no nod is told by -1", whoNods(x, -1), 0);
        check.due("no strangers", whoOfNone(), 0);
    }

    private static int whoNods(NodBets x, int nods) {
        Check.fill(x, 7, 0, nods);
        return x.who(7, 0, 1);
    }

    private static int whoOfNone() {
        NodBets x = Check.town("t1;e5,0;");
        Check.fill(x, 0, 0, 1);
        return x.who(0, 0, 1);
    }

    private static void countsOnceMore() {
        NodBets x = Check.town("t1;h9,0;l1,1;s9,0;");
        x.tell(0, 0);
        check.due("TRUST", x.stranger(0, 0), 10);
        // The nod it gave already makes the habit's need 7.
        Check.fill(x, 0, 0, 1, 0, 1, 0, 1);
        check.due("told anew: need 7", x.trusted(0, 0, 0, 1), 2097151 & ~127);
        Check.fill(x, 0, 0, 0, 0, 1, 1, 0);
        check.due("told anew twice", x.trusted(0, 0, 0, 2), 0);
        Check.fill(x, 0, 1, 0);
        check.due("a lame one is 99 after one", x.trusted(0, 0, 0, 1), 2097151);
        NodBets y = Check.town("t1;e1,1;l1,1;s9,0;");
        y.tell(0, 0);
        Check.fill(y, 0, 0, 1, 1, 1);
        check.due("one told anew makes two", y.who(0, 0, 2), 1);
        check.due("but the town stays", y.need(0, 1), 99);
        NodBets z = Check.town("t1;h9,0;s9,0;");
        Check.fill(z, 0, 0, 1, 0, 1, 0, 1, 0, 1, 0, 1, 0, 1);
        check.due("six times one", z.trusted(0, 0, 0, 6), 2097151 & ~511);
        NodBets w = Check.town("t1;h9,0;e1,0;e1,0;e9,1;s9,0;");
        w.tell(0, 1);
        Check.fill(w, 0, 1, 1, 0, 1);
        // Two nods alike at need 1, so the habit needs 5, with 1 more trust behind the first.
        check.due("a nod told anew counts once more", w.trusted(0, 0, 0, 2), 2097151 & ~15);
    }

    private static void odds() {
        NodBets x = Check.town("t1;e5,0;e6,1;p20,1;e20,3;s5,0;");
        Check.fill(x, 0, 0, 9, 1, -3, 2, 1, 3, 1);
        fraction(x, 0, 0, 3, 1, 1);
        fraction(x, 0, 1, 3, 0, 1);
        fraction(x, 1, 1, 3, 7, 10);
        fraction(x, 1, 1, 5, 1, 2);
        fraction(x, 1, 1, 0, 1, 1);
        fraction(x, 1, 1, 10, 0, 1);
        fraction(x, 2, 2, 3, 49, 100);
        fraction(x, 2, 1, 3, 7, 10);
        fraction(x, 3, 3, 3, 343, 1000);
        fraction(x, 3, 2, 3, 49, 100);
        fraction(x, 4, 3, 4, 27, 125);
        fraction(x, 4, 4, 0, 0, 1);
        fraction(x, 4, 6, 0, 0, 1);
        NodBets y = Check.town("t1;e1,0;s20,0;");
        Check.fill(y, 0, 0, 0, 0, 0, 0, 0, 0, 0, 0, 0, 0, 0);
        fraction(y, 6, 6, 1, 531441, 1000000);
        fraction(y, 6, 1, 1, 999999, 1000000);
        fraction(y, 6, 6, 5, 1, 64);
        fraction(y, 6, 0, 7, 1, 1);
        NodBets z = Check.town("t1;e4,0;e4,1;s4,0;");
        Check.fill(z, 0, 0, 0, 1, 0);
        // A slip takes 2 of trust, so that the second is not nodded at.
        fraction(z, 2, 1, 3, 7, 10);
        check.due("status()", z.status(), 0);
    }

    private static void fraction(NodBets x, int n, int k, int c, int above, int below) {
        check.due("odds above, n " + n + " k " + k + " c " + c, x.odds(0, 0, 0, n, k, c, 0), above);
        check.due("odds below, n " + n + " k " + k + " c " + c, x.odds(0, 0, 0, n, k, c, 1), below);
    }

    private static void refuses() {
        NodBets x = Check.town("t1;e5,0;e6,1;s5,0;");
        Check.fill(x, 0, 0, 0, 2, 0, -1, 0);
        x.row(1, 0, 12);
        refusedByAll(x, 0, 0, 7, BAD);
        refusedByAll(x, 0, 0, -1, BAD);
        refusedByAll(x, 8, 0, 0, BAD);
        refusedByAll(x, -1, 0, 0, BAD);
        refusedByAll(x, 2, 0, 0, NULL);
        refusedByAll(x, 2, -1, 0, NULL);
        refusedByAll(x, 0, -1, 0, PLACE);
        refusedByAll(x, 0, 7, 0, PLACE);
        refusedByAll(x, 0, 5, 1, PLACE);
        refusedByAll(x, 0, 0, 4, PLACE);
        refusedByAll(x, 0, Integer.MAX_VALUE, 6, PLACE);
        refusedByAll(x, 0, 2, 3, PLACE);
        refusedByAll(x, 0, 0, 2, BAD);
        refusedByAll(x, 0, 2, 1, BAD);
        refusedByAll(x, 0, 4, 1, BAD);
        check.due("six of a row of 12", x.who(1, 0, 6), 0);
        check.due("none at the end of a row", x.who(1, 12, 0), 1);
        check.due("what is no LIE where none ought to be", x.who(0, 1, 0), 1);
    }

    private static void refusedByAll(NodBets x, int row, int i, int n, int due) {
        String of = " of row " + row + " from " + i + ", " + n;
        int finding = due == NULL ? 1 : due == PLACE ? 2 : 5;
        for (int call = 0; call < 4; call++) {
            findStore(x);
            int got = call == 0 ? x.doubted(0, row, i, n, 0)
                    : call == 1 ? x.trusted(0, row, i, n)
                    : call == 2 ? x.who(row, i, n) : x.odds(0, row, i, n, 0, 0, 0);
            check.due("call " + call + of, got, due);
            check.due("status() after call " + call + of, x.status(), finding);
        }
    }

    private static void findStore(NodBets x) {
        x.row(6, 0, 1);
        x.row(7, 1, 1);
        x.copy(6, 0, 7, 0, 1);
    }

    private static void refusesOddly() {
        NodBets none = new NodBets();
        check.due("no town: who is STATE ahead of BAD", none.who(9, 0, 9), STATE);
        check.due("no town: doubted", none.doubted(0, 0, 0, 0, 0), BAD);
        NodBets x = Check.town("t1;e5,0;e6,1;s5,0;");
        Check.fill(x, 0, 0, 0);
        check.due("doubted, stranger 1", x.doubted(1, 0, 0, 0, 0), BAD);
        check.due("doubted, stranger -1", x.doubted(-1, 0, 0, 0, 0), BAD);
        check.due("doubted, what 2", x.doubted(0, 0, 0, 0, 2), BAD);
        check.due("doubted, what -1", x.doubted(0, 0, 0, 0, -1), BAD);
        check.due("doubted, what 2, row missing", x.doubted(0, 3, 0, 0, 2), BAD);
        check.due("trusted, stranger 1", x.trusted(1, 0, 0, 0), BAD);
        check.due("odds, stranger 1", x.odds(1, 0, 0, 0, 0, 0, 0), BAD);
        check.due("odds, k -1", x.odds(0, 0, 0, 0, -1, 0, 0), BAD);
        check.due("odds, k 7", x.odds(0, 0, 0, 0, 7, 0, 0), BAD);
        check.due("odds, c -1", x.odds(0, 0, 0, 0, 0, -1, 0), BAD);
        check.due("odds, c 11", x.odds(0, 0, 0, 0, 0, 11, 0), BAD);
        check.due("odds, what 2", x.odds(0, 0, 0, 0, 0, 0, 2), BAD);
        check.due("odds, what -1", x.odds(0, 0, 0, 0, 0, 0, -1), BAD);
        check.due("odds, c 11, row missing", x.odds(0, 3, 0, 0, 0, 11, 0), BAD);
    }

    private static void leavesAllAsItIs() {
        NodBets x = Check.town("t1;e5,0;e6,1;s5,0;");
        Check.fill(x, 0, 0, 1, 1, 1);
        x.doubted(0, 0, 0, 2, 0);
        x.trusted(0, 0, 0, 2);
        x.who(0, 0, 2);
        x.odds(0, 0, 0, 2, 1, 3, 0);
        check.due("TRUST", x.stranger(0, 0), 5);
        check.due("DOUBTS", x.stranger(0, 1), 0);
        check.due("TOLD", x.stranger(0, 2), 0);
        check.due("PURSE", x.count(4), 0);
        check.due("ACTS", x.count(5), 0);
    }
}
