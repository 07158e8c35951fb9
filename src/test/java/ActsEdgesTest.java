/** The edges that the document names of needs and acts: section 2, promises 9 to 15. */
public final class ActsEdgesTest {
    private static final Check check = new Check();
    private static final int BAD = NodBets.BAD, STATE = NodBets.STATE;
    private static final int MIN = Integer.MIN_VALUE, MAX = Integer.MAX_VALUE;

    public static void main(String[] args) {
        needOfEasyAndAbsurd();
        needOfHabits();
        needOfProofs();
        needOfLameOnes();
        needOfDoubters();
        nodsAtNeedOrMore();
        toldOnce();
        trustAfterANod();
        trustAfterNone();
        purse();
        suppers();
        keeps24Acts();
        goesRound();
        undoesLatestFirst();
        forgets();
        forgettingLeavesTrust();
        refusesTell();
        refusesSupper();
        refusesForget();
        refusesUndo();
        ofALie();
        ofAStranger();
        refusesNeed();
        check.end();
    }

    /** The need of lie 0, of which there is this one alone. */
    private static int needAlone(char sort, int weight, int doubts) {
        return Check.town("t1;" + sort + weight + ",2;s5," + doubts + ";").need(0, 0);
    }

    private static void needOfEasyAndAbsurd() {
        check.sentence("NEED of a LIE, of a stranger: of an easy one WEIGHT; of an absurd one twice that");
        for (int weight = 1; weight <= 20; weight++) {
            check.due("easy " + weight, needAlone('e', weight, 0), weight);
            check.due("absurd " + weight, needAlone('a', weight, 0), 2 * weight);
        }
        NodBets x = Check.town("t1;e9,0;a9,0;e1,0;s20,0;");
        x.tell(0, 2);
        check.due("easy, whatever was NODDED at", x.need(0, 0), 9);
        check.due("absurd, whatever was NODDED at", x.need(0, 1), 18);
    }

    private static void needOfHabits() {
        check.sentence("of a habit WEIGHT, less 2 for each LIE of its TOPIC at which that stranger NODDED (0 at least)");
        for (int weight = 1; weight <= 20; weight++) {
            check.due("habit " + weight, needAlone('h', weight, 0), weight);
            NodBets x = Check.town("t1;e1,0;e1,0;h" + weight + ",0;e1,0;e1,0;e1,0;s20,0;s20,0;");
            int[] told = {0, 1, 3, 4, 5};
            for (int nods = 1; nods <= 5; nods++) {
                x.tell(0, told[nods - 1]);
                check.due("habit " + weight + ", nods " + nods, x.need(0, 2), Math.max(weight - 2 * nods, 0));
            }
            check.due("habit " + weight + ", of the other stranger", x.need(1, 2), weight);
        }
        NodBets y = Check.town("t1;h9,1;e1,0;e1,2;e20,1;e1,1;s9,0;");
        y.tell(0, 1);
        y.tell(0, 2);
        check.due("NODS at other TOPICS", y.need(0, 0), 9);
        y.tell(0, 3);
        check.due("TOLD, but not NODDED at", y.need(0, 0), 9);
        y.tell(0, 4);
        check.due("NODDED at", y.need(0, 0), 7);
        y.forget(0, 4);
        check.due("forgotten", y.need(0, 0), 9);
    }

    private static void needOfProofs() {
        check.sentence("of a proof 0, if that stranger NODDED at one of its TOPIC, else 20 and WEIGHT");
        for (int weight = 1; weight <= 20; weight++) {
            check.due("proof " + weight, needAlone('p', weight, 0), 20 + weight);
            NodBets x = Check.town("t1;p" + weight + ",3;e1,3;s20,0;s20,0;");
            x.tell(0, 1);
            check.due("proof " + weight + ", a nod", x.need(0, 0), 0);
            check.due("proof " + weight + ", the other's nod", x.need(1, 0), 20 + weight);
        }
        NodBets y = Check.town("t1;p5,1;e1,0;e20,1;e1,1;e1,1;s9,0;");
        y.tell(0, 1);
        check.due("a NOD at another TOPIC", y.need(0, 0), 25);
        y.tell(0, 2);
        check.due("TOLD, but not NODDED at", y.need(0, 0), 25);
        y.tell(0, 3);
        y.tell(0, 4);
        check.due("two NODS", y.need(0, 0), 0);
        y.forget(0, 3);
        check.due("one is forgotten", y.need(0, 0), 0);
        y.forget(0, 4);
        check.due("both are forgotten", y.need(0, 0), 25);
    }

    private static void needOfLameOnes() {
        check.sentence("of a lame one as of a proof, but 99, if it was TOLD fewer than two LIES so far");
        for (int weight = 1; weight <= 20; weight++) {
            check.due("lame " + weight, needAlone('l', weight, 0), 99);
            NodBets x = Check.town("t1;l" + weight + ",0;e1,0;e1,1;e20,1;e20,1;s5,0;s5,0;");
            x.tell(0, 1);
            check.due("TOLD one, NODDED at its TOPIC", x.need(0, 0), 99);
            x.tell(0, 2);
            check.due("TOLD two, NODDED at its TOPIC", x.need(0, 0), 0);
            x.forget(0, 2);
            check.due("TOLD one, as it forgot", x.need(0, 0), 99);
            x.tell(1, 3);
            check.due("TOLD one, NODDED at none", x.need(1, 0), 99);
            x.tell(1, 4);
            check.due("TOLD two, NODDED at none", x.need(1, 0), 20 + weight);
        }
        NodBets y = Check.town("t1;l5,0;e1,1;s5,0;");
        y.tell(0, 0);
        y.tell(0, 1);
        check.due("it was TOLD itself", y.need(0, 0), 25);
    }

    private static void needOfDoubters() {
        check.sentence("3 more, if it DOUBTS the TOPIC");
        String sorts = "eahpl";
        int[] needs = {9, 18, 9, 29, 99};
        for (int i = 0; i < 5; i++) {
            for (int doubts = 0; doubts < 16; doubts++) {
                int due = needs[i] + ((doubts & 4) != 0 ? 3 : 0);
                check.due(sorts.charAt(i) + ", doubts " + doubts, needAlone(sorts.charAt(i), 9, doubts), due);
            }
        }
        for (int topic = 0; topic < 4; topic++) {
            NodBets x = Check.town("t1;e9," + topic + ";s5," + (1 << topic) + ";s5," + (15 - (1 << topic)) + ";");
            check.due("topic " + topic + ", doubted", x.need(0, 0), 12);
            check.due("topic " + topic + ", all others doubted", x.need(1, 0), 9);
        }
        NodBets y = Check.town("t1;h2,0;p5,0;l5,0;e1,0;e1,0;s20,1;");
        y.tell(0, 3);
        y.tell(0, 4);
        check.due("more than a habit's 0", y.need(0, 0), 3);
        check.due("more than a proof's 0", y.need(0, 1), 3);
        check.due("more than a lame one's 0", y.need(0, 2), 3);
    }

    private static void nodsAtNeedOrMore() {
        check.sentence("A stranger NODS, if TRUST is NEED or more.");
        for (int trust = 0; trust <= 20; trust++) {
            check.due("e10, TRUST " + trust, tellAlone("e10,0", trust, 0), trust >= 10 ? 1 : 0);
            check.due("e10 doubted, TRUST " + trust, tellAlone("e10,0", trust, 1), trust >= 13 ? 1 : 0);
            check.due("a5, TRUST " + trust, tellAlone("a5,0", trust, 0), trust >= 10 ? 1 : 0);
            check.due("h20, TRUST " + trust, tellAlone("h20,0", trust, 0), trust >= 20 ? 1 : 0);
            check.due("e1, TRUST " + trust, tellAlone("e1,0", trust, 0), trust >= 1 ? 1 : 0);
            check.due("p1, TRUST " + trust, tellAlone("p1,0", trust, 0), 0);
            check.due("l1, TRUST " + trust, tellAlone("l1,0", trust, 0), 0);
        }
        check.due("20 by doubt", tellAlone("e17,0", 20, 1), 1);
        check.due("21 by doubt", tellAlone("e18,0", 20, 1), 0);
        check.due("20 twice ten", tellAlone("a10,0", 20, 0), 1);
        check.due("22 twice eleven", tellAlone("a11,0", 20, 0), 0);
        NodBets x = Check.town("t1;p9,0;e1,0;e20,1;s1,0;");
        x.tell(0, 1);
        x.tell(0, 2);
        check.due("TRUST is 0", x.stranger(0, 0), 0);
        check.due("0 is 0 or more", x.tell(0, 0), 1);
    }

    private static int tellAlone(String lie, int trust, int doubts) {
        return Check.town("t1;" + lie + ";s" + trust + "," + doubts + ";").tell(0, 0);
    }

    private static void toldOnce() {
        check.sentence("A LIE is TOLD to a stranger, once");
        NodBets x = Check.town("t5;e1,0;e20,0;s9,0;s9,0;");
        check.due("nods", x.tell(0, 0), 1);
        check.due("nods not", x.tell(0, 1), 0);
        check.due("once, that it nodded at", x.tell(0, 0), STATE);
        check.due("once, that it did not", x.tell(0, 1), STATE);
        check.due("to the other one, too", x.tell(1, 0), 1);
        x.forget(0, 0);
        check.due("again, as it forgot", x.tell(0, 0), 1);
        x.undo();
        check.due("again, as it was undone", x.tell(0, 0), 1);
    }

    private static void trustAfterANod() {
        check.sentence("if it NODS, PURSE is STAKE more, TRUST 1 more (20 at most)");
        for (int trust = 1; trust <= 20; trust++) {
            NodBets x = Check.town("t7;e1,0;s" + trust + ",0;");
            x.tell(0, 0);
            check.due("TRUST " + trust, x.stranger(0, 0), Math.min(trust + 1, 20));
            check.due("PURSE", x.count(4), 7);
        }
    }

    private static void trustAfterNone() {
        check.sentence("if not, PURSE is STAKE less, TRUST less by a fourth of WEIGHT (cut) and 1 (0 at least)");
        for (int weight = 1; weight <= 20; weight++) {
            for (int trust = 0; trust <= 20; trust++) {
                NodBets x = Check.town("t7;p" + weight + ",0;s" + trust + ",0;");
                x.tell(0, 0);
                int due = Math.max(trust - Math.floorDiv(weight, 4) - 1, 0);
                check.due("TRUST " + trust + ", WEIGHT " + weight, x.stranger(0, 0), due);
                check.due("PURSE", x.count(4), -7);
            }
        }
    }

    private static void purse() {
        check.sentence("PURSE is STAKE more .. STAKE less .. 1 less");
        for (int stake = 1; stake <= 9; stake++) {
            NodBets x = Check.town("t" + stake + ";e1,0;e20,0;e20,0;s5,0;");
            x.tell(0, 0);
            check.due("nodded, STAKE " + stake, x.count(4), stake);
            x.tell(0, 1);
            check.due("not nodded, STAKE " + stake, x.count(4), 0);
            x.tell(0, 2);
            check.due("below 0, STAKE " + stake, x.count(4), -stake);
            x.supper(0);
            check.due("a supper, STAKE " + stake, x.count(4), -stake - 1);
        }
    }

    private static void suppers() {
        check.sentence("A SUPPER: PURSE is 1 less, TRUST of one 2 more (20 at most).");
        for (int trust = 0; trust <= 20; trust++) {
            NodBets x = Check.town("t9;s" + trust + ",0;s3,0;");
            check.due("supper, TRUST " + trust, x.supper(0), Math.min(trust + 2, 20));
            check.due("TRUST then", x.stranger(0, 0), Math.min(trust + 2, 20));
            check.due("PURSE", x.count(4), -1);
            check.due("TRUST of the other", x.stranger(1, 0), 3);
        }
    }

    private static void keeps24Acts() {
        check.sentence("ACTS (24 at most are kept, of more the oldest is forgotten");
        for (int acts = 0; acts <= 50; acts++) {
            NodBets x = Check.town("t9;s0,0;s0,0;");
            for (int i = 0; i < acts; i++) {
                x.supper(0);
            }
            int kept = Math.min(acts, 24);
            check.due(acts + " acts: count(5)", x.count(5), kept);
            for (int left = kept - 1; left >= 0; left--) {
                check.due(acts + " acts: undo()", x.undo(), left);
                check.due(acts + " acts: PURSE", x.count(4), -(acts - kept + left));
            }
            check.due(acts + " acts: none is left", x.undo(), STATE);
        }
    }

    private static void goesRound() {
        check.sentence("ACTS (24 at most .. each can be undone, the latest first): more, after some were undone");
        NodBets x = Check.town("t9;e1,0;e1,0;s0,0;s9,0;");
        x.tell(1, 0);
        for (int i = 0; i < 24; i++) {
            x.supper(0);
        }
        for (int i = 0; i < 5; i++) {
            x.undo();
        }
        check.due("kept", x.count(5), 19);
        x.tell(1, 1);
        x.forget(1, 0);
        for (int i = 0; i < 4; i++) {
            x.supper(1);
        }
        check.due("kept, full again", x.count(5), 24);
        for (int i = 0; i < 4; i++) {
            x.undo();
        }
        check.due("TOLD, the suppers undone", x.stranger(1, 2), 2);
        check.due("undo() of the forgetting", x.undo(), 19);
        check.due("TOLD then", x.stranger(1, 2), 3);
        check.due("undo() of the telling", x.undo(), 18);
        check.due("TOLD at last", x.stranger(1, 2), 1);
        for (int i = 17; i >= 0; i--) {
            check.due("undo() of a supper", x.undo(), i);
        }
        check.due("none is left", x.undo(), STATE);
        check.due("the oldest two stand", x.count(4), 9 - 1);
    }

    private static void undoesLatestFirst() {
        check.sentence("each can be undone, the latest first");
        NodBets x = Check.town("t9;e1,0;e20,0;s20,0;s1,0;");
        x.tell(0, 0);
        check.due("TRUST 20 at most", x.stranger(0, 0), 20);
        x.undo();
        check.due("TRUST is 20, not 19", x.stranger(0, 0), 20);
        check.due("PURSE", x.count(4), 0);
        check.due("TOLD", x.stranger(0, 2), 0);
        check.due("NODDED", x.stranger(0, 3), 0);
        x.tell(1, 1);
        check.due("TRUST 0 at least", x.stranger(1, 0), 0);
        x.undo();
        check.due("TRUST is 1, not 6", x.stranger(1, 0), 1);
        check.due("PURSE is as it was", x.count(4), 0);
        x.supper(0);
        x.undo();
        check.due("TRUST is 20, not 18", x.stranger(0, 0), 20);
        x.tell(0, 0);
        x.supper(1);
        x.tell(1, 0);
        check.due("the latest", x.undo(), 2);
        check.due("TOLD of 1", x.stranger(1, 2), 0);
        check.due("TRUST of 1", x.stranger(1, 0), 3);
        check.due("TOLD of 0", x.stranger(0, 2), 1);
    }

    private static void forgets() {
        check.sentence("a stranger FORGETS a LIE that it was TOLD (whether it NODDED, too; TRUST and PURSE stay)");
        NodBets x = Check.town("t9;e1,0;e1,0;e1,0;e1,0;e1,0;e20,0;s9,0;s9,0;");
        for (int lie = 0; lie < 6; lie++) {
            x.tell(0, lie);
            x.tell(1, lie);
        }
        check.due("NODDED", x.stranger(0, 3), 31);
        check.due("one that it did not NOD at", x.forget(0, 5), 5);
        check.due("NODDED stays", x.stranger(0, 3), 31);
        for (int lie = 4; lie >= 0; lie--) {
            check.due("forget(0, " + lie + ")", x.forget(0, lie), lie);
            check.due("TOLD", x.stranger(0, 2), (1 << lie) - 1);
            check.due("NODDED", x.stranger(0, 3), (1 << lie) - 1);
        }
        check.due("the other one was TOLD all", x.stranger(1, 2), 63);
        check.due("the other one NODDED", x.stranger(1, 3), 31);
    }

    private static void forgettingLeavesTrust() {
        check.sentence("FORGETS .. TRUST and PURSE stay; it is an ACT");
        NodBets x = Check.town("t9;e1,0;e9,0;s5,0;");
        x.tell(0, 0);
        x.tell(0, 1);
        check.due("TRUST", x.stranger(0, 0), 3);
        x.forget(0, 0);
        x.forget(0, 1);
        check.due("TRUST stays", x.stranger(0, 0), 3);
        check.due("PURSE stays", x.count(4), 0);
        check.due("undone", x.undo(), 3);
        check.due("TOLD", x.stranger(0, 2), 2);
        check.due("NODDED", x.stranger(0, 3), 0);
        check.due("undone again", x.undo(), 2);
        check.due("TOLD both", x.stranger(0, 2), 3);
        check.due("NODDED at one", x.stranger(0, 3), 1);
        check.due("TRUST stays as well", x.stranger(0, 0), 3);
    }

    private static final int[] NO_STRANGERS = {-1, 2, 4, MIN, MAX}, NO_LIES = {-1, 3, 6, MIN, MAX};

    private static NodBets small() {
        return Check.town("t2;e5,1;h6,2;p7,3;s9,5;s3,0;");
    }

    private static void refusesTell() {
        check.sentence("A LIE is TOLD: whether it NODS (1, 0). BAD; STATE: it was TOLD it.");
        NodBets x = small();
        for (int s : NO_STRANGERS) {
            check.due("tell(" + s + ", 0)", x.tell(s, 0), BAD);
        }
        for (int lie : NO_LIES) {
            check.due("tell(0, " + lie + ")", x.tell(0, lie), BAD);
        }
        check.due("the last of both", x.tell(1, 2), 0);
        check.due("TOLD", x.tell(1, 2), STATE);
        check.due("ACTS", x.count(5), 1);
        check.due("no TOWN", new NodBets().tell(0, 0), BAD);
        check.due("no LIES", Check.town("t1;s5,0;").tell(0, 0), BAD);
        check.due("no STRANGERS", Check.town("t1;e5,0;").tell(0, 0), BAD);
    }

    private static void refusesSupper() {
        check.sentence("A SUPPER: TRUST then. BAD.");
        NodBets x = small();
        for (int s : NO_STRANGERS) {
            check.due("supper(" + s + ")", x.supper(s), BAD);
        }
        check.due("PURSE", x.count(4), 0);
        check.due("the last", x.supper(1), 5);
        check.due("no TOWN", new NodBets().supper(0), BAD);
        check.due("no STRANGERS", Check.town("t1;e5,0;").supper(0), BAD);
    }

    private static void refusesForget() {
        check.sentence("A stranger FORGETS a LIE: how many it was TOLD then. BAD; STATE: it was not.");
        NodBets x = small();
        for (int s : NO_STRANGERS) {
            check.due("forget(" + s + ", 0)", x.forget(s, 0), BAD);
        }
        for (int lie : NO_LIES) {
            check.due("forget(0, " + lie + ")", x.forget(0, lie), BAD);
        }
        check.due("TOLD nothing", x.forget(0, 0), STATE);
        x.tell(0, 0);
        check.due("TOLD another", x.forget(0, 1), STATE);
        check.due("another was TOLD it", x.forget(1, 0), STATE);
        check.due("TOLD it", x.forget(0, 0), 0);
        check.due("it was forgotten", x.forget(0, 0), STATE);
        check.due("no TOWN", new NodBets().forget(0, 0), BAD);
    }

    private static void refusesUndo() {
        check.sentence("The latest ACT is undone: how many can be undone yet. STATE: none.");
        check.due("no TOWN", new NodBets().undo(), STATE);
        NodBets x = small();
        check.due("no ACT", x.undo(), STATE);
        x.supper(0);
        check.due("one", x.undo(), 0);
        check.due("none is left", x.undo(), STATE);
        x.tell(9, 9);
        check.due("a refused one is none", x.undo(), STATE);
        x.supper(0);
        x.image(0);
        check.due("an IMAGE is none", x.count(5), 1);
        x.restore(0);
        check.due("restored", x.undo(), STATE);
    }

    private static void ofALie() {
        check.sentence("Of a LIE: 0 WEIGHT, 1 TOPIC, 2 how many strangers were TOLD it, 3 how many NODDED. BAD.");
        NodBets x = Check.town("t1;e5,3;e9,0;s9,0;s9,0;s0,0;s9,0;");
        check.due("WEIGHT", x.lie(0, 0), 5);
        check.due("TOPIC", x.lie(0, 1), 3);
        for (int s = 0; s < 4; s++) {
            check.due("TOLD, " + s, x.lie(0, 2), s);
            check.due("NODDED, " + s, x.lie(0, 3), s == 3 ? 2 : s);
            x.tell(s, 0);
        }
        check.due("all were TOLD it", x.lie(0, 2), 4);
        check.due("all but one NODDED", x.lie(0, 3), 3);
        check.due("none was TOLD the other", x.lie(1, 2), 0);
        for (int wrong : new int[] {-1, 4, MIN, MAX}) {
            check.due("what " + wrong, x.lie(0, wrong), BAD);
        }
        for (int wrong : new int[] {-1, 2, 6, MIN, MAX}) {
            check.due("lie " + wrong, x.lie(wrong, 0), BAD);
        }
    }

    private static void ofAStranger() {
        check.sentence("Of a stranger: 0 TRUST, 1 DOUBTS (bits), 2 LIES it was TOLD (bits), "
                + "3 LIES at which it NODDED (bits). BAD.");
        NodBets x = small();
        int[] due = {9, 5, 0, 0};
        for (int what = 0; what < 4; what++) {
            check.due("what " + what, x.stranger(0, what), due[what]);
        }
        x.tell(0, 2);
        x.tell(0, 1);
        check.due("TOLD", x.stranger(0, 2), 6);
        check.due("NODDED", x.stranger(0, 3), 0);
        for (int wrong : new int[] {-1, 4, MIN, MAX}) {
            check.due("what " + wrong, x.stranger(0, wrong), BAD);
        }
        for (int s : NO_STRANGERS) {
            check.due("stranger " + s, x.stranger(s, 0), BAD);
        }
    }

    private static void refusesNeed() {
        check.sentence("NEED of a LIE, of a stranger, now. BAD.");
        NodBets x = small();
        for (int s : NO_STRANGERS) {
            check.due("need(" + s + ", 0)", x.need(s, 0), BAD);
        }
        for (int lie : NO_LIES) {
            check.due("need(0, " + lie + ")", x.need(0, lie), BAD);
        }
        check.due("the last of both", x.need(1, 2), 27);
        check.due("no TOWN", new NodBets().need(0, 0), BAD);
    }
}
