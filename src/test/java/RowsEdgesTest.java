/** The edges that the document names of rows: section 1, promises 2 to 5, and 33 as far as rows go. */
public final class RowsEdgesTest {
    private static final Check check = new Check();
    private static final int BAD = NodBets.BAD, STATE = NodBets.STATE;
    private static final int NULL = -1000011, PLACE = -1000012, SIZE = -1000014, STORE = -1000015;
    private static final int MIN = Integer.MIN_VALUE, MAX = Integer.MAX_VALUE;
    /** Lie w - 1 weighs w: so that an item 0 to 5 can be read back. */
    private static final String SIX = "t1;e1,0;e2,0;e3,0;e4,0;e5,0;e6,0;s0,0;";
    private static final int PROBE = 7;

    public static void main(String[] args) {
        missingAtFirst();
        lanes();
        lengths();
        zeroAtFirst();
        inPlaceOfWhatIsThere();
        refusesRows();
        lowestBits();
        refusesSets();
        copiesAsTheyWere();
        copiesToTheEnds();
        refusesCopies();
        drops();
        refusesDrops();
        statusOfRows();
        check.end();
    }

    /** An item that is 0 to 5; BAD if it is none of these. */
    private static int item(NodBets x, int row, int lane, int i) {
        x.row(PROBE, lane, 2);
        x.copy(row, i, PROBE, 0, 1);
        int unnodded = x.trusted(0, PROBE, 0, 1);
        return unnodded < 0 ? unnodded : Integer.bitCount(unnodded) - 1;
    }

    private static void items(String what, NodBets x, int row, int... due) {
        for (int i = 0; i < due.length; i++) {
            check.due(what + ", item " + i, item(x, row, 2, i), due[i]);
        }
    }

    private static void missingAtFirst() {
        check.sentence("ROWS 0 .. 7 are missing (at first)");
        NodBets x = Check.town("t1;e5,0;s9,0;");
        for (int row = 0; row < 8; row++) {
            check.due("set", x.set(row, 0, 0), NULL);
            check.due("drop", x.drop(row), NULL);
            check.due("copy", x.copy(row, 0, row, 0, 0), NULL);
            check.due("who", x.who(row, 0, 0), NULL);
        }
        check.due("count(0)", x.count(0), 0);
        for (int row = 0; row < 8; row++) {
            check.due("row", x.row(row, 0, 1), 1);
            check.due("count(0)", x.count(0), row + 1);
        }
    }

    private static void lanes() {
        check.sentence("or have a LANE (0 bytes, 1 shorts, 2 ints)");
        NodBets x = new NodBets();
        int[] due = {(byte) 70000, (short) 70000, 70000};
        for (int lane = 0; lane < 3; lane++) {
            check.due("row of lane " + lane, x.row(lane, lane, 1), 1);
            check.due("its item", x.set(lane, 0, 70000), due[lane]);
        }
        for (int lane : new int[] {-1, 3, MIN, MAX}) {
            check.due("lane " + lane, x.row(3, lane, 1), BAD);
        }
        check.due("none was made", x.drop(3), NULL);
    }

    private static void lengths() {
        check.sentence("and 0 to 40 ITEMS");
        NodBets x = new NodBets();
        for (int n = 0; n <= 40; n++) {
            int row = n % 8;
            check.due("row of " + n, x.row(row, 2, n), n);
            check.due("the last place of " + n, x.set(row, n - 1, 1), n == 0 ? PLACE : 1);
            check.due("the place behind " + n, x.set(row, n, 1), PLACE);
            check.due("drop of " + n, x.drop(row), n);
        }
        check.due("41", x.row(0, 2, 41), BAD);
        check.due("-1", x.row(0, 2, -1), SIZE);
    }

    private static void zeroAtFirst() {
        check.sentence("ITEMS, 0 at first");
        for (int lane = 0; lane < 3; lane++) {
            NodBets x = Check.town(SIX);
            x.row(0, lane, 40);
            for (int i = 0; i < 40; i++) {
                check.due("item " + i + " of lane " + lane, item(x, 0, lane, i), 0);
            }
        }
        NodBets y = Check.town(SIX);
        Check.fill(y, 0, 5, 5, 5, 5, 5, 5);
        y.drop(0);
        y.row(0, 2, 6);
        items("after a drop", y, 0, 0, 0, 0, 0, 0, 0);
    }

    private static void inPlaceOfWhatIsThere() {
        check.sentence("A ROW of a LANE with n ITEMS, in place of what is there: n.");
        NodBets x = Check.town(SIX);
        Check.fill(x, 0, 5, 5, 5, 5, 5, 5);
        Check.fill(x, 1, 4, 4);
        check.due("as many", x.row(0, 2, 6), 6);
        items("in its place", x, 0, 0, 0, 0, 0, 0, 0);
        items("the other one stays", x, 1, 4, 4);
        Check.fill(x, 0, 5, 5, 5, 5, 5, 5);
        check.due("fewer", x.row(0, 2, 2), 2);
        check.due("the end is nearer", x.set(0, 2, 0), PLACE);
        check.due("more again", x.row(0, 2, 6), 6);
        items("nothing is left", x, 0, 0, 0, 0, 0, 0, 0);
        check.due("of another lane", x.row(0, 0, 1), 1);
        check.due("its item is a byte", x.set(0, 0, 255), -1);
        check.due("none, in place of one", x.row(0, 1, 0), 0);
        check.due("how many ROWS", x.count(0), 3);
        for (int row = 0; row < 6; row++) {
            x.row(row, 2, 40);
            Check.fill(x, row + 1, 3);
            x.row(row, 2, 40);
            x.set(row, 39, 5);
            items("the next one stays, behind a full one", x, row + 1, 3);
        }
    }

    private static void refusesRows() {
        check.sentence("row: BAD: ROW, LANE, n above 40; SIZE.");
        NodBets x = new NodBets();
        for (int row : new int[] {-1, 8, MIN, MAX}) {
            check.due("row " + row, x.row(row, 0, 1), BAD);
        }
        for (int n : new int[] {41, 42, MAX}) {
            check.due("n " + n, x.row(0, 0, n), BAD);
        }
        check.due("status(): no finding", x.status(), 0);
        for (int n : new int[] {-1, -2, MIN}) {
            check.due("n " + n, x.row(0, 0, n), SIZE);
        }
        check.due("status(): SIZE", x.status(), 4);
        check.due("none was made", x.count(0), 0);
    }

    private static void lowestBits() {
        check.sentence("ITEM i becomes v, its lowest bits, as many as the LANE has: what it is then.");
        NodBets x = Check.town(SIX);
        for (int lane = 0; lane < 3; lane++) {
            x.row(lane, lane, 2);
        }
        int[] values = {0, 1, -1, 127, 128, 255, 256, -128, -129, -256, 32767, 32768, 65535, 65536, -32768, -32769,
            MAX, MIN};
        int[] bytes = {0, 1, -1, 127, -128, -1, 0, -128, 127, 0, -1, 0, -1, 0, 0, -1, -1, 0};
        int[] shorts = {0, 1, -1, 127, 128, 255, 256, -128, -129, -256, 32767, -32768, -1, 0, -32768, 32767, -1, 0};
        for (int t = 0; t < values.length; t++) {
            check.due("byte " + values[t], x.set(0, 1, values[t]), bytes[t]);
            check.due("short " + values[t], x.set(1, 1, values[t]), shorts[t]);
            check.due("int " + values[t], x.set(2, 1, values[t]), values[t]);
        }
        x.set(0, 0, 256 + 3);
        check.due("a byte that is kept cut", item(x, 0, 0, 0), 3);
        x.set(1, 0, 65536 + 4);
        check.due("a short that is kept cut", item(x, 1, 1, 0), 4);
        x.set(2, 0, 256 + 3);
        check.due("an int that is kept whole", item(x, 2, 2, 0), BAD);
        Check.fill(x, 3, 1, 2, 3);
        x.set(3, 1, 5);
        items("no item but that one", x, 3, 1, 5, 3);
    }

    private static void refusesSets() {
        check.sentence("set: BAD: ROW; NULL; PLACE.");
        NodBets x = new NodBets();
        x.row(0, 2, 3);
        x.row(1, 2, 0);
        x.row(2, 2, 40);
        for (int row : new int[] {-1, 8, MIN, MAX}) {
            check.due("row " + row, x.set(row, 0, 1), BAD);
        }
        check.due("missing", x.set(3, 0, 1), NULL);
        for (int i : new int[] {-1, 3, 4, MIN, MAX}) {
            check.due("place " + i, x.set(0, i, 1), PLACE);
        }
        check.due("of an empty row", x.set(1, 0, 1), PLACE);
        check.due("the last of 40", x.set(2, 39, 1), 1);
        check.due("behind 40", x.set(2, 40, 1), PLACE);
    }

    private static void copiesAsTheyWere() {
        check.sentence("n ITEMS of a from i on come to b from j on, as they were ahead: n.");
        NodBets x = Check.town(SIX);
        Check.fill(x, 0, 0, 1, 2, 3, 4, 5);
        check.due("onto itself, ahead", x.copy(0, 0, 0, 2, 4), 4);
        items("ahead", x, 0, 0, 1, 0, 1, 2, 3);
        Check.fill(x, 0, 0, 1, 2, 3, 4, 5);
        check.due("onto itself, back", x.copy(0, 2, 0, 0, 4), 4);
        items("back", x, 0, 2, 3, 4, 5, 4, 5);
        check.due("onto itself, where it is", x.copy(0, 1, 0, 1, 3), 3);
        items("where it is", x, 0, 2, 3, 4, 5, 4, 5);
        Check.fill(x, 1, 1, 1, 1, 1);
        check.due("to another", x.copy(0, 3, 1, 1, 2), 2);
        items("another", x, 1, 1, 5, 4, 1);
        items("the first stays", x, 0, 2, 3, 4, 5, 4, 5);
    }

    private static void copiesToTheEnds() {
        check.sentence("copy: n ITEMS, none, and all of them");
        NodBets x = Check.town(SIX);
        x.row(0, 0, 40);
        x.row(1, 0, 40);
        x.set(0, 0, 2);
        x.set(0, 39, 3);
        check.due("all", x.copy(0, 0, 1, 0, 40), 40);
        check.due("the first", item(x, 1, 0, 0), 2);
        check.due("the last", item(x, 1, 0, 39), 3);
        check.due("the last one alone", x.copy(1, 39, 1, 0, 1), 1);
        check.due("it came", item(x, 1, 0, 0), 3);
        check.due("none", x.copy(0, 0, 1, 0, 0), 0);
        check.due("none from the end", x.copy(0, 40, 1, 0, 0), 0);
        check.due("none to the end", x.copy(0, 0, 1, 40, 0), 0);
        x.row(2, 0, 0);
        check.due("none of an empty row", x.copy(2, 0, 2, 0, 0), 0);
        check.due("one of an empty row", x.copy(2, 0, 0, 0, 1), PLACE);
        check.due("one to an empty row", x.copy(0, 0, 2, 0, 1), PLACE);
    }

    private static void refusesCopies() {
        check.sentence("copy: BAD: ROWS; NULL; STORE; PLACE (i, j, n below 0, or beyond an end).");
        NodBets x = new NodBets();
        x.row(0, 2, 4);
        x.row(1, 2, 4);
        x.row(2, 1, 4);
        x.row(3, 0, 4);
        for (int row : new int[] {-1, 8, MIN, MAX}) {
            check.due("a is " + row, x.copy(row, 0, 0, 0, 1), BAD);
            check.due("b is " + row, x.copy(0, 0, row, 0, 1), BAD);
        }
        check.due("a is missing", x.copy(4, 0, 0, 0, 1), NULL);
        check.due("b is missing", x.copy(0, 0, 4, 0, 1), NULL);
        check.due("ints to shorts", x.copy(0, 0, 2, 0, 1), STORE);
        check.due("shorts to bytes", x.copy(2, 0, 3, 0, 1), STORE);
        check.due("bytes to ints", x.copy(3, 0, 0, 0, 1), STORE);
        check.due("bytes to ints, none", x.copy(3, 0, 0, 0, 0), STORE);
        for (int below : new int[] {-1, MIN}) {
            check.due("i is " + below, x.copy(0, below, 1, 0, 1), PLACE);
            check.due("j is " + below, x.copy(0, 0, 1, below, 1), PLACE);
            check.due("n is " + below, x.copy(0, 0, 1, 0, below), PLACE);
            check.due("n is " + below + ", from the end", x.copy(0, 4, 1, 4, below), PLACE);
            check.due("i is " + below + ", none", x.copy(0, below, 1, 0, 0), PLACE);
            check.due("j is " + below + ", none", x.copy(0, 0, 1, below, 0), PLACE);
        }
        check.due("beyond the end of a", x.copy(0, 1, 1, 0, 4), PLACE);
        check.due("beyond the end of b", x.copy(0, 0, 1, 1, 4), PLACE);
        check.due("up to both ends", x.copy(0, 1, 1, 1, 3), 3);
        check.due("none, beyond the end of a", x.copy(0, 5, 1, 0, 0), PLACE);
        check.due("none, beyond the end of b", x.copy(0, 0, 1, 5, 0), PLACE);
        for (int far : new int[] {5, MAX - 1, MAX}) {
            check.due("i is " + far, x.copy(0, far, 1, 0, 1), PLACE);
            check.due("j is " + far, x.copy(0, 0, 1, far, 1), PLACE);
            check.due("n is " + far, x.copy(0, 1, 1, 1, far), PLACE);
            check.due("all are " + far, x.copy(0, far, 1, far, far), PLACE);
        }
    }

    private static void drops() {
        check.sentence("A ROW is missing from now on: how many ITEMS it had.");
        NodBets x = new NodBets();
        for (int n : new int[] {0, 1, 40}) {
            x.row(6, 1, n);
            check.due("drop of " + n, x.drop(6), n);
            check.due("missing: drop", x.drop(6), NULL);
            check.due("missing: set", x.set(6, 0, 1), NULL);
            check.due("missing: copy", x.copy(6, 0, 6, 0, 0), NULL);
            check.due("missing: count(0)", x.count(0), 0);
        }
        x.row(0, 0, 3);
        x.row(1, 0, 4);
        x.drop(0);
        check.due("the other one stays", x.drop(1), 4);
    }

    private static void refusesDrops() {
        check.sentence("drop: BAD; NULL.");
        NodBets x = new NodBets();
        for (int row : new int[] {-1, 8, MIN, MAX}) {
            check.due("row " + row, x.drop(row), BAD);
        }
        check.due("status(): none", x.status(), 0);
        check.due("row 7", x.drop(7), NULL);
        check.due("status(): NULL", x.status(), 1);
    }

    private static void statusOfRows() {
        check.sentence("Of the latest call with a ROW .. that was not BAD, STATE, FULL: the number of its FINDING; "
                + "0: it had none, or there was none.");
        NodBets x = new NodBets();
        check.due("there was none", x.status(), 0);
        x.row(0, 0, -1);
        check.due("SIZE", x.status(), 4);
        check.due("status() leaves it", x.status(), 4);
        x.row(0, 0, 41);
        x.set(8, 0, 0);
        x.copy(0, 0, 8, 0, 0);
        x.drop(-1);
        check.due("BAD leaves it", x.status(), 4);
        x.who(0, 0, 0);
        check.due("STATE leaves it", x.status(), 4);
        x.row(0, 0, 1);
        check.due("row() had none", x.status(), 0);
        x.set(1, 0, 0);
        check.due("NULL", x.status(), 1);
        x.set(0, 0, 0);
        check.due("set() had none", x.status(), 0);
        x.set(0, 1, 0);
        check.due("PLACE", x.status(), 2);
        x.copy(0, 0, 0, 0, 1);
        check.due("copy() had none", x.status(), 0);
        x.row(1, 1, 1);
        x.copy(0, 0, 1, 0, 1);
        check.due("STORE", x.status(), 5);
        for (int i = 0; i < 121; i++) {
            x.feed('t');
        }
        check.due("FULL leaves it", x.feed('t') == NodBets.FULL ? x.status() : -1, 5);
        check.due("undo(), STATE", x.undo(), STATE);
        check.due("STATE leaves it, too", x.status(), 5);
        x.drop(1);
        check.due("drop() had none", x.status(), 0);
        x.drop(1);
        check.due("drop(), NULL", x.status(), 1);
    }
}
