/** The edges that the document names of what is foretold: section 3, promises 16 to 21. */
public final class ForetoldEdgesTest {
    private static final Check check = new Check();
    private static final int NONE = NodBets.NONE, BAD = NodBets.BAD, STATE = NodBets.STATE;
    private static final int MIN = Integer.MIN_VALUE, MAX = Integer.MAX_VALUE;
    private static final int[] NO_STRANGERS = {-1, 1, 4, MIN, MAX};
    /** Each lie but the last comes in by those behind it, one by one. */
    private static final String LADDER = "t1;e6,0;e5,1;e4,2;e3,3;e2,0;e1,1;s1,0;";

    public static void main(String[] args) {
        nothingChanges();
        nods();
        refusesNods();
        ordersMost();
        ordersFirstByNumbers();
        orderAtHowManyAndKth();
        orderByNeedsThatChange();
        refusesOrder();
        orderOfToldOnes();
        comesInByFewest();
        comesInByFirstRow();
        comesInByNone();
        comesInByUntoldOnly();
        comesInByWhatIsNotNoddedAt();
        refusesComesIn();
        dead();
        refusesDead();
        helpsBothWays();
        helpCountsPairs();
        helpOnlyIfElseNot();
        helpOfUntoldOnly();
        refusesHelp();
        suppers();
        refusesSuppers();
        check.end();
    }

    private static void nothingChanges() {
        check.sentence("FORETOLD (nothing changes)");
        NodBets x = Check.town(LADDER);
        x.tell(0, 5);
        Check.fill(x, 0, 4, 1, 0, 0);
        x.set(9, 9, 9);
        x.set(0, 9, 9);
        String ahead = Look.at(x);
        x.nods(0);
        x.order(0, 31, 0);
        x.comesIn(0, 0, 0);
        x.dead(0);
        x.help(0, 0);
        x.suppers(0, 0);
        check.same("calls without a ROW", Look.at(x), ahead);
        check.due("they leave status()", x.status(), 2);
        x.doubted(0, 0, 0, 2, 0);
        x.trusted(0, 0, 0, 2);
        x.who(0, 0, 2);
        x.odds(0, 0, 0, 2, 1, 3, 0);
        check.same("calls with a ROW", Look.at(x), ahead);
        check.due("the ROW is as it was", x.trusted(0, 0, 0, 2), 1 << 2 | 1 << 3 | 1 << 4);
        check.due("undo()", x.undo(), 0);
        check.due("TRUST", x.stranger(0, 0), 1);
    }

    private static void nods() {
        check.sentence("NODS of a stranger now: LIES (bits) it was not TOLD, at which it would NOD.");
        NodBets x = Check.town(LADDER);
        for (int told = 0; told < 6; told++) {
            check.due("one at a time", x.nods(0), 1 << 5 - told);
            x.tell(0, 5 - told);
        }
        check.due("TOLD all", x.nods(0), 0);
        check.due("all six", Check.town("t1;e1,0;e1,0;e1,0;e1,0;e1,0;e1,0;s1,0;").nods(0), 63);
        check.due("none", Check.town("t1;e1,0;e1,0;e1,0;e1,0;e1,0;e1,0;s0,0;").nods(0), 0);
        check.due("no LIES", Check.town("t1;s9,0;").nods(0), 0);
        NodBets y = Check.town("t1;e9,0;e1,1;s9,0;");
        y.tell(0, 1);
        y.forget(0, 1);
        check.due("what it forgot was not TOLD", y.nods(0), 3);
    }

    private static void refusesNods() {
        check.sentence("NODS. BAD.");
        NodBets x = Check.town(LADDER);
        for (int s : NO_STRANGERS) {
            check.due("nods(" + s + ")", x.nods(s), BAD);
        }
        check.due("no TOWN", new NodBets().nods(0), BAD);
    }

    private static void order(String what, NodBets x, int lies, int nods, int... due) {
        check.due(what + ": at how many", x.order(0, lies, -1), nods);
        for (int k = 0; k < 6; k++) {
            check.due(what + ": number " + k, x.order(0, lies, k), k < due.length ? due[k] : NONE);
        }
    }

    private static void ordersMost() {
        check.sentence("ORDER of a set of LIES .. that in which it NODS at most of them, one behind another");
        order("a ladder", Check.town(LADDER), 63, 6, 5, 4, 3, 2, 1, 0);
        order("a ladder's end", Check.town(LADDER), 7, 0, 0, 1, 2);
        order("a gap", Check.town(LADDER), 63 - 8, 2, 5, 4, 0, 1, 2);
    }

    private static void ordersFirstByNumbers() {
        check.sentence("of several the first (by numbers)");
        order("all alike", Check.town("t1;e1,0;e1,0;e1,0;e1,0;e1,0;e1,0;s9,0;"), 63, 6, 0, 1, 2, 3, 4, 5);
        order("at none", Check.town("t1;e1,0;e1,0;e1,0;e1,0;e1,0;e1,0;s0,0;"), 63, 0, 0, 1, 2, 3, 4, 5);
        // Lie 0 is never nodded at, and takes 6 of trust: so it comes ahead where that does not matter.
        order("a dead one that matters not", Check.town("t1;a20,0;e1,0;s20,0;"), 3, 1, 0, 1);
        order("a dead one that matters", Check.town("t1;a20,0;e5,0;s5,0;"), 3, 1, 1, 0);
        order("two first ones", Check.town("t1;e6,0;e5,1;e5,2;s5,0;"), 7, 3, 1, 0, 2);
    }

    private static void orderAtHowManyAndKth() {
        check.sentence("ORDER: at how many it NODS (k = -1), the k-th (0 on; NONE: there are not so many).");
        NodBets x = Check.town(LADDER);
        order("none", x, 0, 0);
        order("one it nods at", x, 32, 1, 5);
        order("one it does not nod at", x, 1, 0, 0);
        order("two", x, 48, 2, 5, 4);
        order("five", x, 62, 5, 5, 4, 3, 2, 1);
        order("all six, the last of k", x, 63, 6, 5, 4, 3, 2, 1, 0);
        order("none of no LIES", Check.town("t1;s9,0;"), 0, 0);
    }

    private static void orderByNeedsThatChange() {
        check.sentence("ORDER .. it NODS .. one behind another: by NEED as it is then");
        order("a habit", Check.town("t1;h9,0;e6,0;s6,0;"), 3, 2, 1, 0);
        order("a habit of another TOPIC", Check.town("t1;h9,1;e6,0;s6,0;"), 3, 1, 1, 0);
        order("a proof", Check.town("t1;p9,3;e6,3;s6,0;"), 3, 2, 1, 0);
        order("a lame one", Check.town("t1;l9,3;e6,3;e6,2;s6,0;"), 7, 3, 1, 2, 0);
        order("a doubt", Check.town("t1;e6,1;e3,1;e6,0;s6,2;"), 7, 2, 1, 2, 0);
    }

    private static void refusesOrder() {
        check.sentence("order: BAD: no set of LIES, k not -1 to 5");
        NodBets x = Check.town(LADDER);
        for (int lies : new int[] {-1, 64, 65, 128, MIN, MAX}) {
            check.due("lies " + lies, x.order(0, lies, -1), BAD);
        }
        for (int k : new int[] {-2, 6, MIN, MAX}) {
            check.due("k " + k, x.order(0, 63, k), BAD);
        }
        for (int s : NO_STRANGERS) {
            check.due("stranger " + s, x.order(s, 0, -1), BAD);
        }
        NodBets two = Check.town("t1;e1,0;e1,0;s9,0;");
        check.due("all of two", two.order(0, 3, -1), 2);
        check.due("a third of two", two.order(0, 4, -1), BAD);
        check.due("a third and two", two.order(0, 7, -1), BAD);
        NodBets none = Check.town("t1;s9,0;");
        check.due("one of none", none.order(0, 1, -1), BAD);
        check.due("no TOWN", new NodBets().order(0, 0, -1), BAD);
    }

    private static void orderOfToldOnes() {
        check.sentence("order: STATE: it was TOLD one of them.");
        NodBets x = Check.town(LADDER);
        x.tell(0, 5);
        x.tell(0, 0);
        check.due("all", x.order(0, 63, -1), STATE);
        check.due("one that it NODDED at", x.order(0, 32, 0), STATE);
        check.due("one that it did not", x.order(0, 1, 0), STATE);
        check.due("none of these", x.order(0, 30, -1) >= 0 ? 1 : 0, 1);
        check.due("no LIES", x.order(0, 0, -1), 0);
        x.forget(0, 5);
        check.due("one that it forgot", x.order(0, 32, 0), 5);
    }

    private static void comes(String what, NodBets x, int lie, int ahead, int first) {
        check.due(what + ": how many", x.comesIn(0, lie, 0), ahead);
        check.due(what + ": the first", x.comesIn(0, lie, 1), first);
    }

    private static void comesInByFewest() {
        check.sentence("COMES IN: the fewest LIES (of those it was not TOLD) to be TOLD ahead, "
                + "so that it NODS at a told one then: how many");
        NodBets x = Check.town(LADDER);
        comes("none need be", x, 5, 0, NONE);
        for (int lie = 4; lie >= 0; lie--) {
            comes("all below", x, lie, 5 - lie, 5);
        }
        NodBets habit = Check.town("t1;h9,0;e1,0;e1,0;e1,1;e1,1;s5,0;");
        // Two of its topic: 9 less 4, against 5 and 2; one: 7 against 6.
        comes("a habit", habit, 0, 2, 1);
    }

    private static void comesInByFirstRow() {
        check.sentence("COMES IN: .. the first of the first row (by numbers)");
        comes("of two alike", Check.town("t1;e3,0;e1,1;e1,2;s2,0;"), 0, 1, 1);
        comes("of two alike, ahead of it", Check.town("t1;e1,1;e1,2;e3,0;s2,0;"), 2, 1, 0);
        comes("the greater number first", Check.town("t1;e4,0;e3,1;e2,2;s2,0;"), 0, 2, 2);
        comes("a lame one: any two", Check.town("t1;e20,0;e20,1;e1,2;l1,2;s20,0;"), 3, 2, 0);
        comes("a proof: the first of its TOPIC", Check.town("t1;e1,0;e1,3;e1,3;p20,3;s9,0;"), 3, 1, 1);
    }

    private static void comesInByNone() {
        check.sentence("COMES IN: how many (what = 0), the first (1; NONE: none need be); NONE.");
        comes("none need be", Check.town("t1;e5,0;s5,0;"), 0, 0, NONE);
        comes("by none, alone", Check.town("t1;e6,0;s5,0;"), 0, NONE, NONE);
        comes("by all others", Check.town("t1;e7,0;e5,1;e5,2;s5,0;"), 0, 2, 1);
        comes("by none, one short", Check.town("t1;e8,0;e5,1;e5,2;s5,0;"), 0, NONE, NONE);
        comes("by none, above 20", Check.town("t1;a11,0;e1,1;e1,1;s20,0;"), 0, NONE, NONE);
        comes("by none, as it is not its own help", Check.town("t1;p1,0;e1,1;s20,0;"), 0, NONE, NONE);
        comes("a lame one alone", Check.town("t1;l1,0;e1,0;s20,0;"), 0, NONE, NONE);
    }

    private static void comesInByUntoldOnly() {
        check.sentence("COMES IN: .. (of those it was not TOLD)");
        NodBets x = Check.town("t1;e6,0;e5,1;e5,2;s7,6;");
        x.tell(0, 1);
        check.due("it did not NOD", x.stranger(0, 0), 5);
        comes("by the one that is left, which it doubts", x, 0, NONE, NONE);
        NodBets y = Check.town("t1;e7,0;e5,1;e5,2;s5,0;");
        comes("by two", y, 0, 2, 1);
        y.tell(0, 1);
        comes("by the other one", y, 0, 1, 2);
        y.tell(0, 2);
        comes("by none", y, 0, 0, NONE);
        comes("by none twice", Check.town("t1;e7,0;e5,1;a20,2;s5,0;"), 0, NONE, NONE);
        NodBets z = Check.town("t1;e6,0;e5,1;s5,0;");
        z.tell(0, 1);
        z.tell(0, 0);
        z.forget(0, 1);
        check.due("one that was TOLD", z.comesIn(0, 0, 0), STATE);
        comes("one that it forgot", z, 1, 0, NONE);
    }

    private static void comesInByWhatIsNotNoddedAt() {
        check.sentence("COMES IN: .. to be TOLD ahead: whether it NODS at those, or not");
        // One that it does not nod at makes two, and one that it nods at is of the lame one's topic.
        NodBets x = Check.town("t1;e20,0;e20,0;l1,1;e1,1;s10,0;");
        comes("a lame one, with a nod at its TOPIC", x, 2, 2, 0);
        check.due("that nod is behind the other", x.order(0, 13, -1), 2);
    }

    private static void refusesComesIn() {
        check.sentence("comesIn: BAD; STATE: it was TOLD it.");
        NodBets x = Check.town(LADDER);
        for (int s : NO_STRANGERS) {
            check.due("stranger " + s, x.comesIn(s, 0, 0), BAD);
        }
        for (int lie : new int[] {-1, 6, MIN, MAX}) {
            check.due("lie " + lie, x.comesIn(0, lie, 0), BAD);
        }
        for (int what : new int[] {-1, 2, MIN, MAX}) {
            check.due("what " + what, x.comesIn(0, 0, what), BAD);
        }
        x.tell(0, 5);
        x.tell(0, 0);
        check.due("TOLD, NODDED at: how many", x.comesIn(0, 5, 0), STATE);
        check.due("TOLD, NODDED at: the first", x.comesIn(0, 5, 1), STATE);
        check.due("TOLD, not NODDED at", x.comesIn(0, 0, 0), STATE);
        check.due("no TOWN", new NodBets().comesIn(0, 0, 0), BAD);
    }

    private static void dead() {
        check.sentence("DEAD: LIES (bits) it was not TOLD at which it NODS in no such way.");
        check.due("none of a ladder", Check.town(LADDER).dead(0), 0);
        check.due("all of a ladder", Check.town(LADDER.replace("s1,", "s0,")).dead(0), 63);
        check.due("those above a gap", Check.town("t1;e6,0;e5,1;e4,2;e2,0;e1,1;s1,0;").dead(0), 7);
        check.due("no LIES", Check.town("t1;s9,0;").dead(0), 0);
        check.due("20 by doubt", Check.town("t1;e17,0;e18,0;s20,1;").dead(0), 2);
        check.due("20 twice ten", Check.town("t1;a10,0;a11,0;s20,0;").dead(0), 2);
        check.due("one comes in by no other twice", Check.town("t1;e7,0;e5,1;a20,2;s5,0;").dead(0), 5);
        check.due("a proof alone of its TOPIC", Check.town("t1;p1,0;e1,1;s20,0;").dead(0), 1);
        check.due("a proof with another", Check.town("t1;p1,1;e1,1;s20,0;").dead(0), 0);
        check.due("a lame one of two LIES", Check.town("t1;l1,1;e1,1;s20,0;").dead(0), 1);
        check.due("a lame one of three LIES", Check.town("t1;l1,1;e1,1;e20,0;s19,0;").dead(0), 0);
        NodBets x = Check.town("t1;e6,0;e5,1;a20,2;e20,3;s5,0;");
        check.due("two", x.dead(0), 12);
        x.tell(0, 2);
        check.due("but what was TOLD; and more, by TRUST that is less", x.dead(0), 8 + 3);
        x.undo();
        x.tell(0, 1);
        x.tell(0, 0);
        check.due("what it NODDED at is not", x.dead(0), 12);
        x.tell(0, 2);
        x.tell(0, 3);
        check.due("TOLD all", x.dead(0), 0);
    }

    private static void refusesDead() {
        check.sentence("DEAD. BAD.");
        NodBets x = Check.town(LADDER);
        for (int s : NO_STRANGERS) {
            check.due("dead(" + s + ")", x.dead(s), BAD);
        }
        check.due("no TOWN", new NodBets().dead(0), BAD);
    }

    private static void help(String what, String text, int pairs, int first) {
        NodBets x = Check.town(text);
        check.due(what + ": how many", x.help(0, 0), pairs);
        check.due(what + ": the first", x.help(0, 1), first);
    }

    private static void helpsBothWays() {
        check.sentence("it NODS at b if a is TOLD ahead, else not, or at a if b is TOLD ahead, else not");
        help("a helps b", "t1;e5,0;e6,0;s5,0;", 1, 1);
        help("b helps a", "t1;e6,0;e5,0;s5,0;", 1, 1);
        help("a helps b, the last ones", "t1;a20,0;a20,0;a20,0;a20,0;e5,0;e6,0;s5,0;", 1, 45);
        help("b helps a, the last ones", "t1;a20,0;a20,0;a20,0;a20,0;e6,0;e5,0;s5,0;", 1, 45);
        help("by one step alone", "t1;e5,0;e7,0;s5,0;", 0, NONE);
        NodBets lame = Check.town("t1;e1,0;l1,0;l1,0;s20,0;");
        lame.tell(0, 0);
        check.due("both ways, counted once", lame.help(0, 0), 1);
        check.due("both ways, the first", lame.help(0, 1), 12);
    }

    private static void helpCountsPairs() {
        check.sentence("HELP: pairs of LIES, a and b, a below b .. how many; the first (10 a and b; NONE)");
        help("one helps five", "t1;e5,0;e6,0;e6,0;e6,0;e6,0;e6,0;s5,0;", 5, 1);
        help("five help one", "t1;e6,0;e5,0;e5,0;e5,0;e5,0;e5,0;s5,0;", 5, 1);
        help("three help three", "t1;e6,0;e6,0;e6,0;e5,0;e5,0;e5,0;s5,0;", 9, 3);
        help("no LIES", "t1;s5,0;", 0, NONE);
        help("one LIE", "t1;e6,0;s5,0;", 0, NONE);
        NodBets x = Check.town("t1;e1,0;l1,0;l1,0;l1,0;l1,0;l1,0;s20,0;");
        x.tell(0, 0);
        check.due("each helps each: how many", x.help(0, 0), 10);
        check.due("each helps each: the first", x.help(0, 1), 12);
    }

    private static void helpOnlyIfElseNot() {
        check.sentence("HELP: .. else not");
        help("it NODS at all as it is", "t1;e5,0;e5,0;e5,0;s5,0;", 0, NONE);
        help("it NODS at none ever", "t1;a20,0;a20,0;s20,0;", 0, NONE);
        help("a habit that it NODS at as it is", "t1;e1,0;h9,0;s9,0;", 0, NONE);
        help("a habit by a NOD at its TOPIC", "t1;e1,0;e1,1;h9,0;s6,0;", 1, 2);
        help("a proof by a NOD at its TOPIC", "t1;e1,0;e1,1;p9,1;s6,0;", 1, 12);
        help("by doubt, not", "t1;e5,0;e6,0;s5,1;", 0, NONE);
        help("a doubted one, by a step", "t1;e5,0;e3,1;s5,2;", 1, 1);
    }

    private static void helpOfUntoldOnly() {
        check.sentence("HELP: pairs of LIES .. not TOLD to it");
        NodBets x = Check.town("t1;e6,0;e5,0;e5,0;s5,0;");
        check.due("ahead", x.help(0, 0), 2);
        x.tell(0, 0);
        check.due("the one that is helped was TOLD", x.help(0, 0), 0);
        NodBets y = Check.town("t1;e6,0;e5,0;e7,0;s5,0;");
        check.due("ahead", y.help(0, 1), 1);
        y.tell(0, 1);
        check.due("the one that helps was TOLD, others are left", y.help(0, 1), 2);
        y.forget(0, 1);
        check.due("one that it forgot helps again: how many", y.help(0, 0), 2);
        check.due("one that it forgot helps again: the first", y.help(0, 1), 2);
    }

    private static void refusesHelp() {
        check.sentence("HELP: how many (what = 0), the first (1; NONE). BAD.");
        NodBets x = Check.town(LADDER);
        for (int s : NO_STRANGERS) {
            check.due("stranger " + s, x.help(s, 0), BAD);
        }
        for (int what : new int[] {-1, 2, MIN, MAX}) {
            check.due("what " + what, x.help(0, what), BAD);
        }
        check.due("how many", x.help(0, 0), 1);
        check.due("the first", x.help(0, 1), 45);
        check.due("no TOWN", new NodBets().help(0, 0), BAD);
    }

    private static void suppers() {
        check.sentence("SUPPERS: the fewest (0 to 10) ahead, so that it NODS at a LIE; NONE.");
        for (int trust = 0; trust <= 20; trust++) {
            for (int need = 1; need <= 20; need++) {
                NodBets x = Check.town("t1;e" + need + ",0;s" + trust + ",0;");
                int due = 0;
                while (trust + 2 * due < need) {
                    due++;
                }
                check.due("TRUST " + trust + ", NEED " + need, x.suppers(0, 0), due);
            }
            NodBets far = Check.town("t1;a11,0;e18,1;p1,2;l1,3;e17,1;s" + trust + ",2;");
            check.due("NEED 22", far.suppers(0, 0), NONE);
            check.due("NEED 21 by doubt", far.suppers(0, 1), NONE);
            check.due("NEED 21 of a proof", far.suppers(0, 2), NONE);
            check.due("NEED 99", far.suppers(0, 3), NONE);
            check.due("NEED 20 by doubt", far.suppers(0, 4), (20 - trust + 1) / 2);
        }
    }

    private static void refusesSuppers() {
        check.sentence("SUPPERS; NONE. BAD; STATE: it was TOLD it.");
        NodBets x = Check.town(LADDER);
        for (int s : NO_STRANGERS) {
            check.due("stranger " + s, x.suppers(s, 0), BAD);
        }
        for (int lie : new int[] {-1, 6, MIN, MAX}) {
            check.due("lie " + lie, x.suppers(0, lie), BAD);
        }
        x.tell(0, 5);
        x.tell(0, 0);
        check.due("TOLD, NODDED at", x.suppers(0, 5), STATE);
        check.due("TOLD, not NODDED at", x.suppers(0, 0), STATE);
        x.forget(0, 5);
        check.due("forgotten", x.suppers(0, 5) >= 0 ? 1 : 0, 1);
        check.due("no TOWN", new NodBets().suppers(0, 0), BAD);
    }
}
