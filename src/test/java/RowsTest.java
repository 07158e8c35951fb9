/** Promises 2 to 5, and 33 as far as rows go. */
public final class RowsTest {
    private static final Check check = new Check();
    private static final int BAD = NodBets.BAD;
    private static final int NULL = -1000011, PLACE = -1000012, SIZE = -1000014, STORE = -1000015;

    public static void main(String[] args) {
        makesRows();
        keepsRowsApart();
        setsItems();
        copiesItems();
        dropsRows();
        tellsStatus();
        check.end();
    }

    private static void makesRows() {
        NodBets x = new NodBets();
        check.due("row(0, 0, 40)", x.row(0, 0, 40), 40);
        check.due("row(7, 2, 0)", x.row(7, 2, 0), 0);
        check.due("count(0)", x.count(0), 2);
        check.due("row(8, 0, 1)", x.row(8, 0, 1), BAD);
        check.due("row(-1, 0, 1)", x.row(-1, 0, 1), BAD);
        check.due("row(0, -1, 1)", x.row(0, -1, 1), BAD);
        check.due("row(0, 3, 1)", x.row(0, 3, 1), BAD);
        check.due("row(0, 0, 41)", x.row(0, 0, 41), BAD);
        check.due("row(0, 0, -1)", x.row(0, 0, -1), SIZE);
        check.due("row(0, 0, MIN)", x.row(0, 0, Integer.MIN_VALUE), SIZE);
        check.due("row(8, 0, -1): BAD is ahead of SIZE", x.row(8, 0, -1), BAD);
        check.due("row(0, 3, -1): BAD is ahead of SIZE", x.row(0, 3, -1), BAD);
        check.due("a row stays where one was refused", x.set(0, 39, 5), 5);
        check.due("row(0, 2, 40) in place of it", x.row(0, 2, 40), 40);
        check.due("count(0) after", x.count(0), 2);
        x.row(1, 2, 40);
        for (int i = 0; i < 40; i++) {
            x.set(0, i, 7);
        }
        x.row(0, 2, 40);
        check.due("copy of a new row", x.copy(0, 0, 1, 0, 40), 40);
        NodBets y = Check.town("t1;e5,0;s9,0;");
        Check.fill(y, 3, 3, 3, 3, 3);
        y.row(3, 2, 4);
        check.due("items are 0 at first: lie 0, not nodded", y.trusted(0, 3, 0, 1), 31);
    }

    private static void keepsRowsApart() {
        NodBets x = Check.town("t1;e5,0;e9,0;s0,0;");
        for (int row = 1; row < 8; row++) {
            Check.fill(x, row, 1, 1);
            check.due("a full row ahead of " + row, x.row(row - 1, 2, 40), 40);
            x.set(row - 1, 39, 7);
            check.due("row " + row + " stays", x.trusted(0, row, 0, 1), 2097151 & ~511);
        }
        check.due("row(7, 2, 40)", x.row(7, 2, 40), 40);
        check.due("its last item", x.set(7, 39, 6), 6);
    }

    private static void setsItems() {
        NodBets x = new NodBets();
        x.row(0, 0, 3);
        x.row(1, 1, 3);
        x.row(2, 2, 3);
        check.due("byte 127", x.set(0, 0, 127), 127);
        check.due("byte 128", x.set(0, 0, 128), -128);
        check.due("byte 511", x.set(0, 2, 511), -1);
        check.due("byte -129", x.set(0, 1, -129), 127);
        check.due("short 32768", x.set(1, 0, 32768), -32768);
        check.due("short 65541", x.set(1, 0, 65541), 5);
        check.due("short -32769", x.set(1, 0, -32769), 32767);
        check.due("int MAX", x.set(2, 2, Integer.MAX_VALUE), Integer.MAX_VALUE);
        check.due("int MIN", x.set(2, 2, Integer.MIN_VALUE), Integer.MIN_VALUE);
        check.due("set(8, 0, 0)", x.set(8, 0, 0), BAD);
        check.due("set(-1, 0, 0)", x.set(-1, 0, 0), BAD);
        check.due("set(3, 0, 0)", x.set(3, 0, 0), NULL);
        check.due("set(3, -1, 0): NULL is ahead of PLACE", x.set(3, -1, 0), NULL);
        check.due("set(0, 3, 0)", x.set(0, 3, 0), PLACE);
        check.due("set(0, -1, 0)", x.set(0, -1, 0), PLACE);
        check.due("set(0, MAX, 0)", x.set(0, Integer.MAX_VALUE, 0), PLACE);
        x.row(4, 0, 0);
        check.due("a row without items has no place", x.set(4, 0, 0), PLACE);
    }

    private static void copiesItems() {
        NodBets x = Check.town("t1;e5,0;e6,0;e7,0;e8,0;s5,0;");
        Check.fill(x, 0, 0, 1, 2, 3);
        Check.fill(x, 1, 9, 9, 9, 9);
        x.row(2, 0, 4);
        check.due("copy(0, 1, 1, 0, 3)", x.copy(0, 1, 1, 0, 3), 3);
        check.due("row 1 is 1 2 3 9: lie 1", x.trusted(0, 1, 0, 1), 0);
        check.due("row 1 is 1 2 3 9: the last one stays", x.who(1, 3, 0), 1);
        check.due("onto itself", x.copy(0, 0, 0, 1, 3), 3);
        check.due("row 0 is 0 0 1 2 then", sameAs(x, 0, 0, 0, 1, 2), 1);
        check.due("back again", x.copy(0, 1, 0, 0, 3), 3);
        check.due("row 0 is 0 1 2 2 then", sameAs(x, 0, 0, 1, 2, 2), 1);
        check.due("no items at the end", x.copy(0, 4, 1, 4, 0), 0);
        check.due("beyond the end", x.copy(0, 5, 1, 0, 0), PLACE);
        check.due("beyond the other end", x.copy(0, 0, 1, 5, 0), PLACE);
        check.due("i below 0", x.copy(0, -1, 1, 0, 1), PLACE);
        check.due("j below 0", x.copy(0, 0, 1, -1, 1), PLACE);
        check.due("n below 0", x.copy(0, 1, 1, 1, -1), PLACE);
        check.due("n MIN", x.copy(0, 1, 1, 1, Integer.MIN_VALUE), PLACE);
        check.due("i MAX, n MAX", x.copy(0, Integer.MAX_VALUE, 1, 0, Integer.MAX_VALUE), PLACE);
        check.due("n too many", x.copy(0, 0, 1, 0, 5), PLACE);
        check.due("too many for b alone", x.copy(0, 0, 1, 1, 4), PLACE);
        check.due("too many for a alone", x.copy(0, 1, 1, 0, 4), PLACE);
        check.due("two lanes", x.copy(0, 0, 2, 0, 1), STORE);
        check.due("STORE is ahead of PLACE", x.copy(0, -1, 2, 0, 1), STORE);
        check.due("two lanes, no items", x.copy(0, 0, 2, 0, 0), STORE);
        check.due("NULL is ahead of PLACE", x.copy(0, -1, 3, 0, 1), NULL);
        check.due("a is missing", x.copy(3, 0, 2, 0, 1), NULL);
        check.due("BAD a", x.copy(8, 0, 3, 0, 1), BAD);
        check.due("BAD b", x.copy(3, 0, -1, 0, 1), BAD);
    }

    /** 1, if four items of a row are these lies, as a town of four easy ones shows by a twin row. */
    private static int sameAs(NodBets x, int row, int... lies) {
        int same = 1;
        for (int i = 0; i < lies.length; i++) {
            Check.fill(x, 6, 0, 0);
            x.copy(row, i, 6, 0, 1);
            NodBets twin = Check.town("t1;e5,0;e6,0;e7,0;e8,0;s5,0;");
            Check.fill(twin, 6, lies[i], 0);
            if (x.trusted(0, 6, 0, 1) != twin.trusted(0, 6, 0, 1)) {
                same = 0;
            }
        }
        return same;
    }

    private static void dropsRows() {
        NodBets x = new NodBets();
        x.row(5, 1, 17);
        check.due("drop(5)", x.drop(5), 17);
        check.due("drop(5) again", x.drop(5), NULL);
        check.due("count(0)", x.count(0), 0);
        check.due("set(5, 0, 0)", x.set(5, 0, 0), NULL);
        check.due("drop(8)", x.drop(8), BAD);
        check.due("drop(-1)", x.drop(-1), BAD);
        x.row(5, 1, 0);
        check.due("an empty row is none that is missing", x.count(0), 1);
        check.due("drop of an empty row", x.drop(5), 0);
    }

    private static void tellsStatus() {
        NodBets x = new NodBets();
        check.due("status() at first", x.status(), 0);
        x.drop(0);
        check.due("status() after NULL", x.status(), 1);
        x.row(9, 0, 0);
        check.due("BAD leaves status()", x.status(), 1);
        x.feed(300);
        x.town();
        x.count(0);
        check.due("calls without rows leave status()", x.status(), 1);
        x.row(0, 0, 1);
        check.due("status() after a row", x.status(), 0);
        x.row(0, 0, -1);
        check.due("status() after SIZE", x.status(), 4);
        x.set(0, 0, 1);
        check.due("status() after a set", x.status(), 0);
        x.set(0, 1, 1);
        check.due("status() after PLACE", x.status(), 2);
        x.copy(0, 0, 0, 0, 1);
        check.due("status() after a copy", x.status(), 0);
        x.row(1, 1, 1);
        x.copy(0, 0, 1, 0, 1);
        check.due("status() after STORE", x.status(), 5);
        x.who(0, 0, 0);
        check.due("STATE leaves status()", x.status(), 5);
        x.drop(1);
        check.due("status() after a drop", x.status(), 0);
    }
}
