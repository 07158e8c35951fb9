import java.util.function.ToIntFunction;

/** The edges that "Terms" names: refusals and findings, in which order, and that they change nothing. */
public final class TermsEdgesTest {
    private static final Check check = new Check();
    private static final int NONE = NodBets.NONE, BAD = NodBets.BAD, STATE = NodBets.STATE, FULL = NodBets.FULL;
    private static final int NULL = -1000011, PLACE = -1000012, KIND = -1000013, SIZE = -1000014, STORE = -1000015;
    private static final int MIN = Integer.MIN_VALUE, MAX = Integer.MAX_VALUE;

    public static void main(String[] args) {
        numbersFromZero();
        cutsTowardsZero();
        lowestTerms();
        setsAreBits();
        badIsAheadOfState();
        badIsAheadOfFull();
        badIsAheadOfFindings();
        numbersOfFindings();
        firstInTime();
        refusedRowsChangeNothing();
        refusedActsChangeNothing();
        refusedForetellingsChangeNothing();
        refusedTellingsChangeNothing();
        refusedAsksChangeNothing();
        refusedWithoutTownChangeNothing();
        lastsForItsCalls();
        check.end();
    }

    private static void numbersFromZero() {
        check.sentence("Numbers go from 0 on.");
        NodBets x = Check.town("t1;e5,0;e7,1;s6,0;s9,0;");
        x.row(0, 2, 1);
        check.due("row 0", x.set(0, 0, 3), 3);
        check.due("lie 0", x.lie(0, 0), 5);
        check.due("lie 1, the last", x.lie(1, 0), 7);
        check.due("lie 2", x.lie(2, 0), BAD);
        check.due("stranger 0", x.stranger(0, 0), 6);
        check.due("stranger 1, the last", x.stranger(1, 0), 9);
        check.due("stranger 2", x.stranger(2, 0), BAD);
    }

    private static void cutsTowardsZero() {
        check.sentence("All that is divided is cut towards 0");
        int[] weights = {1, 3, 4, 7, 8, 11, 12, 15, 16, 19, 20}, less = {1, 1, 2, 2, 3, 3, 4, 4, 5, 5, 6};
        for (int i = 0; i < weights.length; i++) {
            NodBets x = Check.town("t1;p" + weights[i] + ",0;s20,0;");
            x.tell(0, 0);
            check.due("TRUST after WEIGHT " + weights[i], x.stranger(0, 0), 20 - less[i]);
        }
    }

    private static void lowestTerms() {
        check.sentence("but fractions, told as two numbers in lowest terms (0 is 0 by 1)");
        NodBets x = Check.town("t1;e1,0;s20,0;");
        Check.fill(x, 0, 0, 1, 0, 1, 0, 1, 0, 1, 0, 1, 0, 1);
        int[] above = {1, 9, 4, 7, 3, 1, 2, 3, 1, 1, 0}, below = {1, 10, 5, 10, 5, 2, 5, 10, 5, 10, 1};
        for (int c = 0; c <= 10; c++) {
            check.due("above, c " + c, x.odds(0, 0, 0, 1, 1, c, 0), above[c]);
            check.due("below, c " + c, x.odds(0, 0, 0, 1, 1, c, 1), below[c]);
        }
        check.due("0 of a million: above", x.odds(0, 0, 0, 6, 6, 10, 0), 0);
        check.due("0 of a million: below", x.odds(0, 0, 0, 6, 6, 10, 1), 1);
        check.due("a million of a million: above", x.odds(0, 0, 0, 6, 6, 0, 0), 1);
        check.due("a million of a million: below", x.odds(0, 0, 0, 6, 6, 0, 1), 1);
        check.due("5 to the 6 of a million: above", x.odds(0, 0, 0, 6, 6, 5, 0), 1);
        check.due("5 to the 6 of a million: below", x.odds(0, 0, 0, 6, 6, 5, 1), 64);
        check.due("in lowest terms as it is: above", x.odds(0, 0, 0, 6, 1, 1, 0), 999999);
        check.due("in lowest terms as it is: below", x.odds(0, 0, 0, 6, 1, 1, 1), 1000000);
    }

    private static void setsAreBits() {
        check.sentence("Sets are bits.");
        NodBets x = Check.town("t1;e1,0;e20,0;e1,0;e20,0;e1,0;e20,0;s5,9;s5,6;s9,9;s3,6;");
        check.due("LIES", x.nods(0), 1 | 4 | 16);
        check.due("TOPICS", x.stranger(0, 1), 9);
        Check.fill(x, 0, 0, 1);
        check.due("strangers", x.who(0, 0, 1), 15);
        check.due("TRUST", x.trusted(1, 0, 0, 1), (1 << 21) - 2);
        x.tell(0, 5);
        check.due("the last LIE", x.stranger(0, 2), 32);
    }

    private static void badIsAheadOfState() {
        check.sentence("Refusals are answers, the first of these that fits, but as told: BAD .. STATE");
        NodBets x = Check.town("t1;e5,0;e7,1;s6,0;");
        x.tell(0, 0);
        check.due("tell, both", x.tell(1, 0), BAD);
        check.due("forget, both", x.forget(1, 1), BAD);
        check.due("order, k 6, TOLD", x.order(0, 1, 6), BAD);
        check.due("order, k -2, TOLD", x.order(0, 1, -2), BAD);
        check.due("order, no set, TOLD one of it", x.order(0, 5, -1), BAD);
        check.due("order, below 0, TOLD one of it", x.order(0, -1, -1), BAD);
        check.due("comesIn, what 2, TOLD", x.comesIn(0, 0, 2), BAD);
        check.due("comesIn, what -1, TOLD", x.comesIn(0, 0, -1), BAD);
        check.due("suppers, no stranger", x.suppers(1, 0), BAD);
        check.due("restore(2), none was kept", x.restore(2), BAD);
        check.due("restore(-1), none was kept", x.restore(-1), BAD);
        NodBets none = new NodBets();
        check.due("image(2), no TOWN", none.image(2), BAD);
        check.due("image(-1), no TOWN", none.image(-1), BAD);
        check.due("who, as told: STATE is ahead of a BAD row", none.who(8, 0, 0), STATE);
        check.due("who, as told: STATE is ahead of a BAD n", none.who(0, 0, 7), STATE);
        check.due("who: STATE is ahead of NULL", none.who(0, 0, 0), STATE);
    }

    private static void badIsAheadOfFull() {
        check.sentence("BAD .. STATE .. FULL (as told)");
        NodBets x = new NodBets();
        for (int i = 0; i < 120; i++) {
            x.feed('t');
        }
        check.due("feed(-1), full", x.feed(-1), BAD);
        check.due("feed(256), full", x.feed(256), BAD);
        check.due("feed(0), full", x.feed(0), FULL);
    }

    private static void badIsAheadOfFindings() {
        check.sentence("BAD .. then FINDINGS");
        NodBets x = Check.town("t1;e5,0;s6,0;");
        check.due("row: ROW and SIZE", x.row(8, 0, -1), BAD);
        check.due("row: LANE and SIZE", x.row(0, 3, -1), BAD);
        check.due("row: LANE below 0 and SIZE", x.row(0, -1, MIN), BAD);
        check.due("copy: b is no ROW, a is missing", x.copy(0, 0, 8, 0, 1), BAD);
        check.due("copy: a is no ROW, b is missing", x.copy(-1, 0, 0, 0, 1), BAD);
        check.due("doubted: n and NULL", x.doubted(0, 0, 0, 7, 0), BAD);
        check.due("doubted: what and NULL", x.doubted(0, 0, 0, 0, 2), BAD);
        check.due("trusted: stranger and NULL", x.trusted(1, 0, 0, 0), BAD);
        check.due("who: n and NULL", x.who(0, 0, -1), BAD);
        check.due("odds: k and NULL", x.odds(0, 0, 0, 0, 7, 0, 0), BAD);
        check.due("as: lie and KIND", x.as(1, 5), BAD);
    }

    private static void numbersOfFindings() {
        check.sentence("-1000010 less 1 NULL (a ROW that is missing), 2 PLACE (no such place of a ROW), "
                + "3 KIND (a LIE that is not that), 4 SIZE (fewer than none), 5 STORE (ROWS of two LANES)");
        NodBets x = Check.town("t1;e5,0;s6,0;");
        x.row(0, 0, 2);
        x.row(1, 1, 2);
        found(x, "NULL", x.drop(2), 1);
        found(x, "PLACE", x.set(0, 2, 1), 2);
        found(x, "KIND", x.as(0, 2), 3);
        found(x, "SIZE", x.row(2, 0, -1), 4);
        found(x, "STORE", x.copy(0, 0, 1, 0, 1), 5);
    }

    private static void found(NodBets x, String name, int got, int number) {
        check.due(name, got, -1000010 - number);
        check.due("status() after " + name, x.status(), number);
    }

    private static void firstInTime() {
        check.sentence("then FINDINGS, of several the first in time");
        NodBets x = Check.town("t1;e5,0;s6,0;");
        Check.fill(x, 0, 9, 0);
        x.row(1, 1, 2);
        check.due("set: NULL and PLACE", x.set(2, -1, 0), NULL);
        check.due("copy: a missing, PLACE", x.copy(2, -1, 0, 0, 1), NULL);
        check.due("copy: b missing, PLACE", x.copy(0, 3, 2, 0, -1), NULL);
        check.due("copy: STORE and PLACE", x.copy(0, -1, 1, 0, 1), STORE);
        check.due("copy: STORE, n below 0", x.copy(0, 0, 1, 0, -1), STORE);
        check.due("who: NULL and PLACE", x.who(2, -1, 1), NULL);
        check.due("who: PLACE, then an ITEM that is no LIE", x.who(0, 0, 2), PLACE);
        check.due("who: the ITEM alone", x.who(0, 0, 1), BAD);
    }

    /** Rows, a told town, an image, acts, a trace and bytes on the tape, with a finding of its own in status(). */
    private static NodBets prepared() {
        NodBets x = Check.town("t3;e5,0;h8,0;p2,1;l3,1;s9,2;s4,0;");
        x.image(1);
        x.tell(0, 0);
        x.supper(1);
        x.tell(1, 1);
        x.tell(0, 1);
        x.forget(0, 1);
        x.ask(1, 0);
        Check.fill(x, 0, 0, 1, 1, 1, 9, 1);
        Check.fillLane(x, 1, 0, 1, 0, 2);
        x.feed('t');
        x.feed('0');
        return x;
    }

    private static final String UNTOUCHED = Look.through(prepared());

    /** The status is what the finding says, and otherwise as it was ahead: 3, by as(). */
    private static void unchanged(String name, ToIntFunction<NodBets> call, int due) {
        NodBets x = prepared();
        x.as(0, 5);
        check.due(name, call.applyAsInt(x), due);
        int number = -1000010 - due;
        check.due("status() after " + name, x.status(), number >= 1 && number <= 5 ? number : 3);
        check.same("all after " + name, Look.through(x), UNTOUCHED);
    }

    private static void refusedRowsChangeNothing() {
        check.sentence("What is refused, or found, changes nothing but status().");
        unchanged("row(8, 0, 1)", x -> x.row(8, 0, 1), BAD);
        unchanged("row(-1, 0, 1)", x -> x.row(-1, 0, 1), BAD);
        unchanged("row(0, 3, 1)", x -> x.row(0, 3, 1), BAD);
        unchanged("row(0, -1, 1)", x -> x.row(0, -1, 1), BAD);
        unchanged("row(0, 0, 41)", x -> x.row(0, 0, 41), BAD);
        unchanged("row(2, 0, MAX)", x -> x.row(2, 0, MAX), BAD);
        unchanged("row(0, 0, -1)", x -> x.row(0, 0, -1), SIZE);
        unchanged("row(2, 0, MIN)", x -> x.row(2, 0, MIN), SIZE);
        unchanged("set(8, 0, 1)", x -> x.set(8, 0, 1), BAD);
        unchanged("set(2, 0, 1)", x -> x.set(2, 0, 1), NULL);
        unchanged("set(0, 6, 1)", x -> x.set(0, 6, 1), PLACE);
        unchanged("set(1, -1, 1)", x -> x.set(1, -1, 1), PLACE);
        unchanged("copy(0, 0, 8, 0, 1)", x -> x.copy(0, 0, 8, 0, 1), BAD);
        unchanged("copy(2, 0, 0, 0, 1)", x -> x.copy(2, 0, 0, 0, 1), NULL);
        unchanged("copy(0, 0, 2, 0, 1)", x -> x.copy(0, 0, 2, 0, 1), NULL);
        unchanged("copy(0, 0, 1, 0, 1)", x -> x.copy(0, 0, 1, 0, 1), STORE);
        unchanged("copy(0, 0, 0, 3, 4)", x -> x.copy(0, 0, 0, 3, 4), PLACE);
        unchanged("copy(0, 3, 0, 0, 4)", x -> x.copy(0, 3, 0, 0, 4), PLACE);
        unchanged("drop(8)", x -> x.drop(8), BAD);
        unchanged("drop(2)", x -> x.drop(2), NULL);
    }

    private static void refusedActsChangeNothing() {
        check.sentence("What is refused .. changes nothing: acts");
        unchanged("feed(-1)", x -> x.feed(-1), BAD);
        unchanged("feed(256)", x -> x.feed(256), BAD);
        unchanged("tell(2, 2)", x -> x.tell(2, 2), BAD);
        unchanged("tell(0, 4)", x -> x.tell(0, 4), BAD);
        unchanged("tell(0, 0)", x -> x.tell(0, 0), STATE);
        unchanged("tell(1, 1)", x -> x.tell(1, 1), STATE);
        unchanged("supper(2)", x -> x.supper(2), BAD);
        unchanged("supper(-1)", x -> x.supper(-1), BAD);
        unchanged("forget(2, 0)", x -> x.forget(2, 0), BAD);
        unchanged("forget(0, 4)", x -> x.forget(0, 4), BAD);
        unchanged("forget(0, 1)", x -> x.forget(0, 1), STATE);
        unchanged("forget(1, 0)", x -> x.forget(1, 0), STATE);
        unchanged("lie(4, 0)", x -> x.lie(4, 0), BAD);
        unchanged("lie(0, 4)", x -> x.lie(0, 4), BAD);
        unchanged("stranger(2, 0)", x -> x.stranger(2, 0), BAD);
        unchanged("stranger(0, 4)", x -> x.stranger(0, 4), BAD);
        unchanged("need(2, 0)", x -> x.need(2, 0), BAD);
        unchanged("need(0, 4)", x -> x.need(0, 4), BAD);
    }

    private static void refusedForetellingsChangeNothing() {
        check.sentence("What is refused .. changes nothing: what is foretold");
        unchanged("nods(2)", x -> x.nods(2), BAD);
        unchanged("order(2, 0, 0)", x -> x.order(2, 0, 0), BAD);
        unchanged("order(0, 16, 0)", x -> x.order(0, 16, 0), BAD);
        unchanged("order(0, 2, 6)", x -> x.order(0, 2, 6), BAD);
        unchanged("order(0, 3, 0)", x -> x.order(0, 3, 0), STATE);
        unchanged("comesIn(2, 0, 0)", x -> x.comesIn(2, 0, 0), BAD);
        unchanged("comesIn(0, 1, 2)", x -> x.comesIn(0, 1, 2), BAD);
        unchanged("comesIn(0, 0, 1)", x -> x.comesIn(0, 0, 1), STATE);
        unchanged("dead(2)", x -> x.dead(2), BAD);
        unchanged("help(2, 0)", x -> x.help(2, 0), BAD);
        unchanged("help(0, 2)", x -> x.help(0, 2), BAD);
        unchanged("suppers(2, 0)", x -> x.suppers(2, 0), BAD);
        unchanged("suppers(0, 4)", x -> x.suppers(0, 4), BAD);
        unchanged("suppers(0, 0)", x -> x.suppers(0, 0), STATE);
        unchanged("image(2)", x -> x.image(2), BAD);
        unchanged("image(-1)", x -> x.image(-1), BAD);
        unchanged("restore(2)", x -> x.restore(2), BAD);
        unchanged("restore(-1)", x -> x.restore(-1), BAD);
        unchanged("restore(0)", x -> x.restore(0), STATE);
    }

    private static void refusedTellingsChangeNothing() {
        check.sentence("What is refused, or found, changes nothing but status(): rows that tell");
        unchanged("doubted, no stranger", x -> x.doubted(2, 0, 0, 1, 0), BAD);
        unchanged("doubted, missing", x -> x.doubted(0, 2, 0, 1, 0), NULL);
        unchanged("doubted, no place", x -> x.doubted(0, 0, 5, 1, 0), PLACE);
        unchanged("doubted, no lie", x -> x.doubted(0, 0, 4, 1, 0), BAD);
        unchanged("trusted, no row", x -> x.trusted(0, 8, 0, 1), BAD);
        unchanged("trusted, missing", x -> x.trusted(0, 7, 0, 1), NULL);
        unchanged("trusted, no place", x -> x.trusted(0, 0, -1, 1), PLACE);
        unchanged("trusted, no lie", x -> x.trusted(0, 0, 0, 3), BAD);
        unchanged("who, n 7", x -> x.who(0, 0, 7), BAD);
        unchanged("who, missing", x -> x.who(2, 0, 0), NULL);
        unchanged("who, no place", x -> x.who(0, 7, 0), PLACE);
        unchanged("who, no lie", x -> x.who(0, 2, 2), BAD);
        unchanged("odds, c 11", x -> x.odds(0, 0, 0, 1, 0, 11, 0), BAD);
        unchanged("odds, missing", x -> x.odds(0, 2, 0, 1, 0, 0, 0), NULL);
        unchanged("odds, no place", x -> x.odds(0, 0, 0, 4, 0, 0, 0), PLACE);
        unchanged("odds, no lie", x -> x.odds(0, 0, 4, 1, 0, 0, 0), BAD);
    }

    private static void refusedAsksChangeNothing() {
        check.sentence("What is refused, or found, changes nothing but status(): asks");
        unchanged("kind(4)", x -> x.kind(4), BAD);
        unchanged("as(4, 0)", x -> x.as(4, 0), BAD);
        unchanged("as(0, 6)", x -> x.as(0, 6), BAD);
        unchanged("as(0, 4)", x -> x.as(0, 4), KIND);
        unchanged("ask(4, 0)", x -> x.ask(4, 0), BAD);
        unchanged("ask(0, 2)", x -> x.ask(0, 2), BAD);
        unchanged("trace(16)", x -> x.trace(16), NONE);
        unchanged("trace(-1)", x -> x.trace(-1), NONE);
        unchanged("count(7)", x -> x.count(7), BAD);
        unchanged("count(-1)", x -> x.count(-1), BAD);
    }

    private static void refusedWithoutTownChangeNothing() {
        check.sentence("What is refused .. changes nothing: no TOWN, no ACT, a full tape");
        NodBets x = new NodBets();
        x.undo();
        x.image(0);
        x.restore(0);
        x.who(0, 0, 0);
        x.tell(0, 0);
        check.due("status()", x.status(), 0);
        check.same("a new object", Look.through(x), Look.through(new NodBets()));
        NodBets full = new NodBets();
        NodBets twin = new NodBets();
        for (int i = 0; i < 120; i++) {
            full.feed('t');
            twin.feed('t');
        }
        check.due("feed, full", full.feed('t'), FULL);
        check.same("a full tape", Look.through(full), Look.through(twin));
    }

    private static void lastsForItsCalls() {
        check.sentence("An object is used for at most 512 calls after it has been made");
        String text = "t9;e20,0;s0,0;";
        NodBets x = Check.town(text);
        int calls = text.length() + 1;
        int eaten = 0;
        while (calls < 511) {
            x.supper(0);
            eaten++;
            calls++;
        }
        check.due("PURSE, the 512th call", x.count(4), -eaten);
    }
}
