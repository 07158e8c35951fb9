/** The edges that the document names of rows that tell: section 3, promises 22 to 25, and 33 as far as they go. */
public final class TellingsEdgesTest {
    private static final Check check = new Check();
    private static final int NONE = NodBets.NONE, BAD = NodBets.BAD, STATE = NodBets.STATE;
    private static final int NULL = -1000011, PLACE = -1000012;
    private static final int MIN = Integer.MIN_VALUE, MAX = Integer.MAX_VALUE;
    private static final int ALL_TRUSTS = (1 << 21) - 1;
    private static final String[] CALLS = {"doubted", "trusted", "who", "odds"};

    public static void main(String[] args) {
        tellsZeroToSix();
        tellsByTurns();
        tellsFromNowOn();
        tellsOneBehindAnother();
        neitherOneNorZero();
        anyLane();
        doubted();
        doubtedAllElseAsItIs();
        trusted();
        who();
        toldAnewCounts();
        oddsOfKNods();
        oddsByC();
        oddsEachByItself();
        oddsOfWhatIsNotNoddedAt();
        oddsWhateverItTells();
        refusesNumbers();
        missingRows();
        places();
        itemsThatAreNoLies();
        stateOfWho();
        statusOfTellings();
        check.end();
    }

    private static int call(NodBets x, int which, int row, int i, int n) {
        switch (which) {
            case 0: return x.doubted(0, row, i, n, 0);
            case 1: return x.trusted(0, row, i, n);
            case 2: return x.who(row, i, n);
            default: return x.odds(0, row, i, n, 0, 0, 0);
        }
    }

    private static void all(String what, NodBets x, int row, int i, int n, int due) {
        for (int which = 0; which < 4; which++) {
            check.due(CALLS[which] + ", " + what, call(x, which, row, i, n), due);
        }
    }

    private static void each(String what, NodBets x, int row, int i, int n, int... due) {
        for (int which = 0; which < 4; which++) {
            check.due(CALLS[which] + ", " + what, call(x, which, row, i, n), due[which]);
        }
    }

    private static void tellsZeroToSix() {
        check.sentence("A row tells n LIES (0 to 6)");
        NodBets x = Check.town("t1;e1,0;s5,0;s0,0;s9,0;s9,15;");
        Check.fill(x, 0, 0, 1, 0, 1, 0, 1, 0, 1, 0, 1, 0, 1, 9, 9);
        each("n 0", x, 0, 0, 0, 16, ALL_TRUSTS, 15, 1);
        for (int n = 1; n <= 6; n++) {
            each("n " + n, x, 0, 0, n, 16, ALL_TRUSTS - 1, 13, 1);
        }
        for (int n : new int[] {-1, 7, MIN, MAX}) {
            all("n " + n, x, 0, 0, n, BAD);
        }
        check.due("n 6, six NODS", x.odds(0, 0, 0, 6, 6, 0, 0), 1);
        Check.fill(x, 0, 0, 1, 0, 1, 0, 1, 0, 1, 0, 1, 0, 0);
        each("n 6, but the last", x, 0, 0, 6, 0, 0, 0, 1);
        each("n 5, without the last", x, 0, 0, 5, 16, ALL_TRUSTS - 1, 13, 1);
    }

    private static void tellsByTurns() {
        check.sentence("n LIES .. and whether (1, 0) a stranger NODDED, by turns; by 2 n ITEMS of a ROW from i on");
        NodBets x = Check.town("t1;e5,0;e9,1;s7,0;s9,0;");
        Check.fill(x, 0, 0, 1, 1, 0, 0, 1);
        check.due("0 and 1, from 0 on", x.who(0, 0, 1), 3);
        check.due("1 and 1, from 1 on", x.who(0, 1, 1), 2);
        check.due("1 and 0, from 2 on", x.who(0, 2, 1), 1);
        check.due("0 and 0, from 3 on", x.who(0, 3, 1), 0);
        check.due("0 and 1, from 4 on", x.who(0, 4, 1), 3);
        check.due("two, from 1 on", x.who(0, 1, 2), 0);
        check.due("two, from 0 on", x.who(0, 0, 2), 1);
        check.due("two, from 2 on", x.who(0, 2, 2), 0);
        check.due("three, from 0 on", x.who(0, 0, 3), 1);
    }

    private static void tellsFromNowOn() {
        check.sentence("A row tells .. from now on");
        NodBets x = Check.town("t1;e5,0;p9,0;l3,0;s5,0;s5,0;");
        Check.fill(x, 0, 1, 1, 2, 1);
        check.due("a proof, at first", x.who(0, 0, 1), 0);
        x.tell(0, 0);
        check.due("a proof, after a NOD", x.who(0, 0, 1), 1);
        check.due("a lame one, after one", x.who(0, 2, 1), 0);
        check.due("a lame one, told two", x.who(0, 0, 2), 1);
        x.supper(1);
        check.due("the other one's TRUST is 7", x.stranger(1, 0), 7);
        Check.fill(x, 1, 0, 1);
        check.due("both", x.who(1, 0, 1), 3);
        x.forget(0, 0);
        check.due("a proof, after it forgot", x.who(0, 0, 1), 0);
    }

    private static void tellsOneBehindAnother() {
        check.sentence("A row tells .. one behind another");
        NodBets x = Check.town("t1;e5,0;e6,1;e20,2;s5,0;");
        Check.fill(x, 0, 0, 1, 1, 1);
        check.due("TRUST is 1 more after a NOD", x.who(0, 0, 2), 1);
        Check.fill(x, 0, 1, 0, 0, 0);
        check.due("TRUST is less after none", x.who(0, 0, 2), 1);
        Check.fill(x, 0, 2, 0, 2, 0, 0, 0);
        check.due("TRUST is 0 at least", x.trusted(0, 0, 0, 3), (1 << 17) - 1);
        NodBets y = Check.town("t1;e1,0;e20,1;s20,0;");
        Check.fill(y, 0, 0, 1, 1, 1, 0, 1);
        check.due("TRUST is 20 at most", y.trusted(0, 0, 0, 2), 1 << 19 | 1 << 20);
    }

    private static void neitherOneNorZero() {
        check.sentence("whether (1, 0) a stranger NODDED: what is neither fits none");
        NodBets x = Check.town("t1;e5,0;s5,0;s0,0;");
        for (int item : new int[] {2, -1, 3, MIN, MAX}) {
            Check.fill(x, 0, 0, item);
            each("item " + item, x, 0, 0, 1, 0, 0, 0, 1);
            check.due("doubted, the least, item " + item, x.doubted(0, 0, 0, 1, 1), NONE);
        }
    }

    private static void anyLane() {
        check.sentence("ROWS .. have a LANE: each of them tells");
        NodBets x = Check.town("t1;e5,0;e9,1;s7,0;s9,0;");
        for (int lane = 0; lane < 3; lane++) {
            Check.fillLane(x, lane, lane, 1, 1);
            check.due("lane " + lane, x.who(lane, 0, 1), 2);
        }
        Check.fillLane(x, 0, 0, 257, 256);
        check.due("bytes that are cut", x.who(0, 0, 1), 1);
        Check.fillLane(x, 1, 1, 65537, 65537);
        check.due("shorts that are cut", x.who(1, 0, 1), 2);
        Check.fillLane(x, 2, 2, 257, 256);
        check.due("ints that are not", x.who(2, 0, 1), BAD);
    }

    private static void doubted() {
        check.sentence("DOUBTED: sets of TOPICS by which it goes so, all else as it is: how many; the least; NONE.");
        NodBets x = Check.town("t1;e7,0;e5,1;e3,2;e2,3;a20,0;s7,6;");
        Check.fill(x, 0, 0, 0, 1, 0, 2, 0, 3, 0);
        // Each is not nodded at only for doubt: 7, 5, 3, 2 of trust meet needs of 7, 5, 3, 2 and 3 more.
        int[] many = {16, 8, 4, 2, 1}, least = {0, 1, 3, 7, 15};
        for (int n = 0; n <= 4; n++) {
            check.due("how many, n " + n, x.doubted(0, 0, 0, n, 0), many[n]);
            check.due("the least, n " + n, x.doubted(0, 0, 0, n, 1), least[n]);
        }
        Check.fill(x, 1, 4, 1);
        check.due("none: how many", x.doubted(0, 1, 0, 1, 0), 0);
        check.due("none: the least", x.doubted(0, 1, 0, 1, 1), NONE);
        Check.fill(x, 1, 4, 0);
        check.due("all: how many", x.doubted(0, 1, 0, 1, 0), 16);
        check.due("all: the least", x.doubted(0, 1, 0, 1, 1), 0);
    }

    private static void doubtedAllElseAsItIs() {
        check.sentence("DOUBTED: .. all else as it is");
        NodBets x = Check.town("t1;e5,0;p9,1;e9,1;s6,0;s9,0;");
        Check.fill(x, 0, 0, 1, 1, 1);
        check.due("TRUST of 6", x.doubted(0, 0, 0, 1, 0), 8);
        check.due("TRUST of 9", x.doubted(1, 0, 0, 1, 0), 16);
        check.due("a proof", x.doubted(1, 0, 2, 1, 0), 0);
        x.tell(1, 2);
        check.due("a proof, after a NOD: by all", x.doubted(1, 0, 2, 1, 0), 16);
        x.supper(0);
        check.due("TRUST of 8", x.doubted(0, 0, 0, 1, 0), 16);
    }

    private static void trusted() {
        check.sentence("TRUSTED: TRUST (0 to 20, bits) by which it goes so.");
        NodBets x = Check.town("t1;e1,0;e20,1;a20,2;e17,3;e18,3;s7,8;");
        Check.fill(x, 0, 0, 0, 1, 1, 2, 0, 2, 1, 3, 1, 4, 1);
        check.due("0 alone", x.trusted(0, 0, 0, 1), 1);
        check.due("20 alone", x.trusted(0, 0, 2, 1), 1 << 20);
        check.due("0 to 20", x.trusted(0, 0, 4, 1), ALL_TRUSTS);
        check.due("none", x.trusted(0, 0, 6, 1), 0);
        check.due("20 alone, by doubt", x.trusted(0, 0, 8, 1), 1 << 20);
        check.due("none, by doubt", x.trusted(0, 0, 10, 1), 0);
        check.due("none told", x.trusted(0, 0, 12, 0), ALL_TRUSTS);
    }

    private static void who() {
        check.sentence("WHO: strangers (bits) of whom it goes so");
        NodBets x = Check.town("t1;e5,0;e20,1;s5,0;s7,1;s8,1;s4,0;");
        Check.fill(x, 0, 0, 1, 0, 0, 1, 0, 1, 1);
        check.due("nods", x.who(0, 0, 1), 5);
        check.due("nods not", x.who(0, 2, 1), 10);
        check.due("all", x.who(0, 4, 1), 15);
        check.due("none", x.who(0, 6, 1), 0);
        NodBets y = Check.town("t1;e5,0;");
        Check.fill(y, 0, 0, 1);
        check.due("there are none", y.who(0, 0, 1), 0);
        check.due("there are none, none told", y.who(0, 0, 0), 0);
        NodBets z = Check.town("t1;");
        Check.fill(z, 0, 0, 1);
        check.due("a law alone, none told", z.who(0, 0, 0), 0);
        check.due("a law alone has no LIE", z.who(0, 0, 1), BAD);
    }

    private static void toldAnewCounts() {
        check.sentence("(a LIE that one was TOLD goes on as if it were TOLD anew: it counts once more)");
        NodBets x = Check.town("t1;e1,1;l1,1;s9,0;s9,0;");
        x.tell(0, 0);
        Check.fill(x, 0, 0, 1, 1, 1);
        check.due("TOLD one, and that anew: two so far", x.who(0, 0, 2), 1);
        Check.fill(x, 1, 0, 1, 0, 1, 1, 1);
        check.due("TOLD twice in one row: two so far", x.who(1, 0, 3), 3);
        NodBets y = Check.town("t1;h9,0;e1,0;s1,0;s1,0;");
        y.tell(0, 1);
        Check.fill(y, 0, 1, 1, 0, 1);
        // Two nods make the habit's need 5; with trust t it is t + 1 then.
        check.due("a NOD counts once more", y.trusted(0, 0, 0, 2), ALL_TRUSTS & ~15);
        // One nod makes it 7.
        check.due("a NOD that was TOLD none", y.trusted(1, 0, 0, 2), ALL_TRUSTS & ~63);
        NodBets z = Check.town("t1;e9,0;s5,0;");
        z.tell(0, 0);
        Check.fill(z, 0, 0, 0);
        check.due("TRUST is less once more", z.trusted(0, 0, 0, 1), 511);
        check.due("the town stays", z.stranger(0, 0), 2);
    }

    private static void fraction(String what, NodBets x, int n, int k, int c, int above, int below) {
        check.due(what + ", above, k " + k + " c " + c, x.odds(0, 0, 0, n, k, c, 0), above);
        check.due(what + ", below, k " + k + " c " + c, x.odds(0, 0, 0, n, k, c, 1), below);
    }

    private static void oddsOfKNods() {
        check.sentence("that it NODS k times (0 to 6), or more: a fraction");
        NodBets x = Check.town("t1;e1,0;s20,0;");
        Check.fill(x, 0, 0, 1, 0, 1, 0, 1, 0, 1, 0, 1, 0, 1);
        // Of 64 rows of six nods or none: 1, 6, 15, 20, 15, 6, 1.
        int[] above = {1, 63, 57, 21, 11, 7, 1}, below = {1, 64, 64, 32, 32, 64, 64};
        for (int k = 0; k <= 6; k++) {
            fraction("six", x, 6, k, 5, above[k], below[k]);
            fraction("none", x, 0, k, 5, k == 0 ? 1 : 0, 1);
        }
        fraction("two, as many as there are", x, 2, 2, 5, 1, 4);
        fraction("two, one more than there are", x, 2, 3, 5, 0, 1);
        for (int k : new int[] {-1, 7, MIN, MAX}) {
            check.due("k " + k, x.odds(0, 0, 0, 6, k, 5, 0), BAD);
        }
    }

    private static void oddsByC() {
        check.sentence("where it would NOD it does not by c of 10");
        NodBets x = Check.town("t1;e1,0;s20,0;");
        Check.fill(x, 0, 0, 1, 0, 1, 0, 1, 0, 1, 0, 1, 0, 1);
        fraction("never slips", x, 6, 6, 0, 1, 1);
        fraction("always slips", x, 6, 1, 10, 0, 1);
        fraction("always slips, none wanted", x, 6, 0, 10, 1, 1);
        fraction("slips by 1", x, 6, 6, 1, 531441, 1000000);
        fraction("slips by 9", x, 6, 6, 9, 1, 1000000);
        fraction("slips by 9, one", x, 6, 1, 9, 468559, 1000000);
        for (int c : new int[] {-1, 11, MIN, MAX}) {
            check.due("c " + c, x.odds(0, 0, 0, 6, 0, c, 0), BAD);
        }
    }

    private static void oddsEachByItself() {
        check.sentence("it does not by c of 10, each by itself: what slipped was not NODDED at");
        NodBets proof = Check.town("t1;e1,0;p1,0;s20,0;");
        Check.fill(proof, 0, 0, 1, 1, 1);
        fraction("a proof", proof, 2, 2, 3, 49, 100);
        fraction("a proof", proof, 2, 1, 3, 7, 10);
        NodBets lame = Check.town("t1;e1,0;e1,0;l1,0;s20,0;");
        Check.fill(lame, 0, 0, 1, 1, 1, 2, 1);
        fraction("a lame one", lame, 3, 3, 3, 343, 1000);
        fraction("a lame one", lame, 3, 2, 3, 98, 125);
        fraction("a lame one", lame, 3, 1, 3, 91, 100);
        NodBets trust = Check.town("t1;e4,0;e4,1;s4,0;");
        Check.fill(trust, 0, 0, 1, 1, 1);
        fraction("TRUST that is less", trust, 2, 2, 3, 49, 100);
        fraction("TRUST that is less", trust, 2, 1, 3, 7, 10);
        NodBets habit = Check.town("t1;e1,0;h9,0;s6,0;");
        Check.fill(habit, 0, 0, 1, 1, 1);
        fraction("a habit", habit, 2, 1, 3, 7, 10);
        fraction("a habit", habit, 2, 2, 3, 49, 100);
    }

    private static void oddsOfWhatIsNotNoddedAt() {
        check.sentence("where it would NOD: elsewhere it does not, whatever c is");
        NodBets x = Check.town("t1;e6,0;e3,0;s5,0;");
        Check.fill(x, 0, 0, 1, 1, 1);
        for (int c = 0; c <= 10; c++) {
            fraction("one", x, 1, 1, c, 0, 1);
            fraction("one", x, 1, 0, c, 1, 1);
            fraction("two", x, 2, 2, c, 0, 1);
        }
        fraction("the second alone", x, 2, 1, 3, 7, 10);
    }

    private static void oddsWhateverItTells() {
        check.sentence("such a row's LIES (whatever it tells of NODS)");
        NodBets x = Check.town("t1;e5,0;s5,0;");
        for (int item : new int[] {0, 1, 2, -1, MIN, MAX}) {
            Check.fill(x, 0, 0, item);
            fraction("item " + item, x, 1, 1, 3, 7, 10);
        }
    }

    private static void refusesNumbers() {
        check.sentence("doubted, trusted, who, odds: BAD: STRANGER, ROW, n, k, c, what");
        NodBets x = Check.town("t1;e5,0;s5,0;");
        Check.fill(x, 0, 0, 1);
        for (int s : new int[] {-1, 1, 4, MIN, MAX}) {
            check.due("doubted, stranger " + s, x.doubted(s, 0, 0, 1, 0), BAD);
            check.due("trusted, stranger " + s, x.trusted(s, 0, 0, 1), BAD);
            check.due("odds, stranger " + s, x.odds(s, 0, 0, 1, 0, 0, 0), BAD);
        }
        for (int row : new int[] {-1, 8, MIN, MAX}) {
            all("row " + row, x, row, 0, 1, BAD);
        }
        for (int what : new int[] {-1, 2, MIN, MAX}) {
            check.due("doubted, what " + what, x.doubted(0, 0, 0, 1, what), BAD);
            check.due("odds, what " + what, x.odds(0, 0, 0, 1, 0, 0, what), BAD);
        }
        NodBets none = new NodBets();
        Check.fill(none, 0, 0, 1);
        check.due("no TOWN: doubted", none.doubted(0, 0, 0, 0, 0), BAD);
        check.due("no TOWN: trusted", none.trusted(0, 0, 0, 0), BAD);
        check.due("no TOWN: odds", none.odds(0, 0, 0, 0, 0, 0, 0), BAD);
        check.due("status() stays", none.status(), 0);
    }

    private static void missingRows() {
        check.sentence("doubted, trusted, who, odds: NULL");
        NodBets x = Check.town("t1;e5,0;s5,0;");
        for (int row = 0; row < 8; row++) {
            all("row " + row, x, row, 0, 0, NULL);
            all("row " + row + ", no place", x, row, -1, 6, NULL);
        }
        Check.fill(x, 7, 0, 1);
        each("row 7 then", x, 7, 0, 1, 8, ALL_TRUSTS & ~31, 1, 1);
        x.drop(7);
        all("row 7 at last", x, 7, 0, 0, NULL);
    }

    private static void places() {
        check.sentence("doubted, trusted, who, odds: PLACE");
        NodBets x = Check.town("t1;e1,0;s0,0;");
        int[] lengths = {0, 1, 2, 11, 12, 13, 40};
        for (int length : lengths) {
            x.row(0, 2, length);
            each("none, at the end of " + length, x, 0, length, 0, 16, ALL_TRUSTS, 1, 1);
            all("none, behind the end of " + length, x, 0, length + 1, 0, PLACE);
            all("none, below 0", x, 0, -1, 0, PLACE);
        }
        for (int n = 1; n <= 6; n++) {
            x.row(0, 2, 2 * n);
            each("all of " + n, x, 0, 0, n, 16, 1, 1, 1);
            all("one place on, of " + n, x, 0, 1, n, PLACE);
            all("below 0, of " + n, x, 0, -1, n, PLACE);
            x.row(0, 2, 2 * n - 1);
            all("one too short for " + n, x, 0, 0, n, PLACE);
        }
        x.row(0, 2, 40);
        each("six, at the end of 40", x, 0, 28, 6, 16, 1, 1, 1);
        all("six, beyond the end of 40", x, 0, 29, 6, PLACE);
        for (int i : new int[] {41, MAX - 12, MAX - 11, MAX, MIN}) {
            all("from " + i, x, 0, i, 6, PLACE);
            all("from " + i + ", none", x, 0, i, 0, PLACE);
        }
    }

    private static void itemsThatAreNoLies() {
        check.sentence("then BAD: an ITEM that is no LIE where it ought to be.");
        NodBets x = Check.town("t1;e1,0;e1,0;s0,0;");
        for (int item : new int[] {2, 6, -1, 255, MIN, MAX}) {
            Check.fill(x, 0, item, 0, 1, 0);
            all("item " + item + " at first", x, 0, 0, 1, BAD);
            all("item " + item + " at first of two", x, 0, 0, 2, BAD);
            each("item " + item + " ahead of it", x, 0, 2, 1, 16, 1, 1, 1);
            Check.fill(x, 0, 0, 0, item, 0);
            all("item " + item + " at second", x, 0, 0, 2, BAD);
            each("item " + item + " behind it", x, 0, 0, 1, 16, 1, 1, 1);
            each("item " + item + ", none told", x, 0, 2, 0, 16, ALL_TRUSTS, 1, 1);
            Check.fill(x, 0, 0, item);
            check.due("item " + item + " where a NOD is told", x.odds(0, 0, 0, 1, 0, 0, 0), 1);
        }
        Check.fill(x, 0, 0, 0, 0, 0, 0, 0, 0, 0, 0, 0, 2, 0);
        all("the last of six", x, 0, 0, 6, BAD);
        Check.fill(x, 0, 2, 1);
        Check.fill(x, 1, 0, 1, 2, 1);
        all("ahead of what goes so", x, 1, 0, 2, BAD);
    }

    private static void stateOfWho() {
        check.sentence("who: BAD: ROW, n; STATE: no TOWN (ahead of BAD); NULL; PLACE; then BAD as there.");
        NodBets x = new NodBets();
        x.row(0, 2, 2);
        for (int row : new int[] {-1, 0, 1, 8}) {
            for (int n : new int[] {-1, 0, 1, 7}) {
                check.due("who(" + row + ", 0, " + n + ")", x.who(row, 0, n), STATE);
                check.due("who(" + row + ", 9, " + n + ")", x.who(row, 9, n), STATE);
            }
        }
        Check.feed(x, "t1;");
        x.town();
        check.due("a TOWN: BAD", x.who(8, 0, 0), BAD);
        check.due("a TOWN: NULL", x.who(1, 0, 0), NULL);
        check.due("a TOWN: PLACE", x.who(0, 3, 0), PLACE);
        check.due("a TOWN: an ITEM", x.who(0, 0, 1), BAD);
        check.due("a TOWN", x.who(0, 0, 0), 0);
    }

    private static void statusOfTellings() {
        check.sentence("Of the latest call with a ROW .. that was not BAD, STATE, FULL: the number of its FINDING: tellings");
        NodBets x = Check.town("t1;e1,0;s0,0;");
        Check.fill(x, 0, 0, 0, 9, 0);
        for (int which = 0; which < 4; which++) {
            call(x, which, 1, 0, 0);
            check.due(CALLS[which] + ", NULL", x.status(), 1);
            call(x, which, 0, 0, 1);
            check.due(CALLS[which] + ", none", x.status(), 0);
            call(x, which, 0, 0, 3);
            check.due(CALLS[which] + ", PLACE", x.status(), 2);
            call(x, which, 0, 0, 7);
            check.due(CALLS[which] + ", BAD leaves it", x.status(), 2);
            call(x, which, 0, 2, 1);
            check.due(CALLS[which] + ", BAD by an ITEM leaves it", x.status(), 2);
        }
        Check.fill(x, 0, 0, 1);
        x.set(0, 9, 9);
        check.due("NONE", x.doubted(0, 0, 0, 1, 1), NONE);
        check.due("NONE is no FINDING", x.status(), 0);
    }
}
