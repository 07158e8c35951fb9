/** Promises 26 and 27. */
public final class ImagesTest {
    private static final Check check = new Check();
    private static final int BAD = NodBets.BAD, STATE = NodBets.STATE;

    public static void main(String[] args) {
        keepsImages();
        outlastsTowns();
        refuses();
        check.end();
    }

    private static void keepsImages() {
        NodBets x = Check.town("t3;e5,0;e9,1;s5,0;s3,2;");
        x.tell(0, 0);
        check.due("image(0)", x.image(0), 1);
        check.due("ACTS stay", x.count(5), 1);
        x.tell(0, 1);
        x.supper(1);
        check.due("image(1)", x.image(1), 1);
        check.due("restore(0)", x.restore(0), 1);
        check.due("no ACT can be undone", x.count(5), 0);
        check.due("undo()", x.undo(), STATE);
        check.due("PURSE", x.count(4), 3);
        check.due("TRUST of 0", x.stranger(0, 0), 6);
        check.due("TRUST of 1", x.stranger(1, 0), 3);
        check.due("TOLD", x.stranger(0, 2), 1);
        check.due("NODDED", x.stranger(0, 3), 1);
        x.supper(0);
        check.due("an image stays", x.restore(0), 1);
        check.due("TRUST of 0 again", x.stranger(0, 0), 6);
        check.due("restore(1)", x.restore(1), 1);
        check.due("TRUST of 1 then", x.stranger(1, 0), 5);
        check.due("TOLD then", x.stranger(0, 2), 3);
        check.due("NODDED then", x.stranger(0, 3), 1);
        check.due("PURSE then", x.count(4), -1);
        x.image(0);
        x.supper(0);
        x.restore(0);
        check.due("an image in place of another", x.stranger(1, 0), 5);
    }

    private static void outlastsTowns() {
        NodBets x = Check.town("t3;e5,0;e9,1;s5,0;s3,2;");
        x.image(1);
        Check.feed(x, "t8;h2,3;s9,9;");
        x.town();
        x.tell(0, 0);
        x.image(0);
        x.restore(1);
        check.due("LIES", x.count(1), 2);
        check.due("STRANGERS", x.count(2), 2);
        check.due("STAKE", x.count(3), 3);
        check.due("WEIGHT", x.lie(1, 0), 9);
        check.due("TOPIC", x.lie(1, 1), 1);
        check.due("DOUBTS", x.stranger(1, 1), 2);
        x.restore(0);
        check.due("LIES of the other", x.count(1), 1);
        check.due("STAKE of the other", x.count(3), 8);
        check.due("KIND of the other", x.kind(0), 3);
        check.due("TOLD of the other", x.stranger(0, 2), 1);
    }

    private static void refuses() {
        NodBets x = new NodBets();
        check.due("image(0), no town", x.image(0), STATE);
        check.due("image(2), no town", x.image(2), BAD);
        check.due("restore(2)", x.restore(2), BAD);
        check.due("restore(0), none kept", x.restore(0), STATE);
        Check.feed(x, "t1;s1,1;");
        x.town();
        x.supper(0);
        check.due("image(-1)", x.image(-1), BAD);
        check.due("restore(-1)", x.restore(-1), BAD);
        check.due("image(1)", x.image(1), 1);
        check.due("restore(0), the other kept", x.restore(0), STATE);
        check.due("a refused one leaves ACTS", x.count(5), 1);
    }
}
