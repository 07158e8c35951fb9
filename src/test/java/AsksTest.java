/** Promises 28 to 31, and 33 as far as as() goes. */
public final class AsksTest {
    private static final Check check = new Check();
    private static final int NONE = NodBets.NONE, BAD = NodBets.BAD, KIND = -1000013;
    private static final String LIES = "t1;e5,0;a5,0;h5,0;p5,0;l5,0;";

    public static void main(String[] args) {
        tellsKinds();
        takesAs();
        asksSize();
        asksMark();
        tracesOnlyTheLatest();
        check.end();
    }

    private static void tellsKinds() {
        NodBets x = Check.town(LIES);
        for (int lie = 0; lie < 5; lie++) {
            check.due("kind(" + lie + ")", x.kind(lie), lie + 1);
        }
        check.due("kind(5)", x.kind(5), BAD);
        check.due("kind(-1)", x.kind(-1), BAD);
    }

    private static void takesAs() {
        NodBets x = Check.town(LIES);
        int[] kinds = {3, 7, 11, 17, 49};
        for (int lie = 0; lie < 5; lie++) {
            for (int kind = 0; kind < 6; kind++) {
                boolean so = (kinds[lie] >> kind & 1) != 0;
                check.due("as(" + lie + ", " + kind + ")", x.as(lie, kind), so ? lie : KIND);
                check.due("status()", x.status(), so ? 0 : 3);
            }
        }
        x.as(0, 5);
        check.due("as(5, 0)", x.as(5, 0), BAD);
        check.due("as(0, 6)", x.as(0, 6), BAD);
        check.due("as(0, -1)", x.as(0, -1), BAD);
        check.due("as(-1, 0)", x.as(-1, 0), BAD);
        check.due("BAD leaves status()", x.status(), 3);
    }

    private static void asksSize() {
        NodBets x = Check.town(LIES);
        asked(x, 0, 0, 5, 11, 10, 21, 20);
        asked(x, 1, 0, -7, 12, 11, 10, 24, 21, 20);
        asked(x, 2, 0, -993, 11, 10, 22, 21, 20);
        asked(x, 3, 0, -95, 13, 10);
        asked(x, 4, 0, -190, 14, 13, 10);
        check.due("ask(0, 2)", x.ask(0, 2), BAD);
        check.due("ask(0, -1)", x.ask(0, -1), BAD);
        check.due("ask(5, 0)", x.ask(5, 0), BAD);
        check.due("ask(-1, 0)", x.ask(-1, 0), BAD);
    }

    private static void asksMark() {
        NodBets x = Check.town(LIES + "s20,0;s20,0;s0,0;");
        for (int lie = 0; lie < 5; lie++) {
            for (int s = 0; s < 3; s++) {
                x.tell(s, lie);
            }
        }
        check.due("two NODDED at 0", x.lie(0, 3), 2);
        asked(x, 0, 1, 2, 21, 20);
        asked(x, 1, 1, 6, 24, 21, 20);
        asked(x, 2, 1, -996, 22, 21, 20);
        asked(x, 3, 1, 98, 23, 20, 13, 10);
        asked(x, 4, 1, 194, 23, 20, 14, 13, 10);
        asked(x, 0, 0, 7, 11, 10, 21, 20);
        asked(x, 1, 0, -11, 12, 11, 10, 24, 21, 20);
        asked(x, 2, 0, -991, 11, 10, 22, 21, 20);
    }

    private static void asked(NodBets x, int lie, int what, int due, int... bodies) {
        String call = "ask(" + lie + ", " + what + ")";
        check.due(call, x.ask(lie, what), due);
        for (int i = 0; i < bodies.length; i++) {
            check.due("trace(" + i + ") of " + call, x.trace(i), bodies[i]);
        }
        check.due("the end of the trace of " + call, x.trace(bodies.length), NONE);
    }

    private static void tracesOnlyTheLatest() {
        NodBets x = Check.town(LIES);
        x.ask(1, 0);
        x.ask(3, 0);
        check.due("trace(0)", x.trace(0), 13);
        check.due("trace(1)", x.trace(1), 10);
        check.due("trace(2)", x.trace(2), NONE);
        x.ask(9, 0);
        check.due("a refused ask leaves the trace", x.trace(0), 13);
        check.due("trace(-1)", x.trace(-1), NONE);
        check.due("trace(16)", x.trace(16), NONE);
        check.due("trace(MAX)", x.trace(Integer.MAX_VALUE), NONE);
        check.due("trace(MIN)", x.trace(Integer.MIN_VALUE), NONE);
    }
}
