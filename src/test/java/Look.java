/** All that can be seen of an object, as a text. */
final class Look {
    private final NodBets x;
    private final StringBuilder seen = new StringBuilder();

    private Look(NodBets x) {
        this.x = x;
    }

    /** Counts, the latest fault, the trace, lies and strangers: looking changes nothing. */
    static String at(NodBets x) {
        Look look = new Look(x);
        look.counts();
        look.trace();
        look.town();
        return look.seen.toString();
    }

    /** All there is but status(): it spends the object, as acts are undone, images restored, rows dropped. */
    static String through(NodBets x) {
        Look look = new Look(x);
        look.counts();
        look.trace();
        look.town();
        look.rows();
        look.acts();
        look.images();
        look.note("tape", x.town(), x.fault(), x.count(1));
        return look.seen.toString();
    }

    private void note(String what, int... numbers) {
        seen.append(' ').append(what);
        for (int number : numbers) {
            seen.append(' ').append(number);
        }
        seen.append(';');
    }

    private void counts() {
        note("counts", x.count(0), x.count(1), x.count(2), x.count(3), x.count(4), x.count(5), x.count(6));
        note("fault", x.fault());
    }

    private void trace() {
        int last = 0;
        for (int i = 0; last != NodBets.NONE && i < 16; i++) {
            last = x.trace(i);
            note("trace", last);
        }
    }

    private void town() {
        for (int lie = 0; lie < x.count(1); lie++) {
            note("lie", x.kind(lie), x.lie(lie, 0), x.lie(lie, 1), x.lie(lie, 2), x.lie(lie, 3));
        }
        strangers();
    }

    private void strangers() {
        note("purse", x.count(4));
        for (int s = 0; s < x.count(2); s++) {
            note("stranger", x.stranger(s, 0), x.stranger(s, 1), x.stranger(s, 2), x.stranger(s, 3));
        }
    }

    /** Items show as the lies and nods that a stranger is told by them. */
    private void rows() {
        for (int row = 0; row < 8; row++) {
            int shown = 0;
            for (int i = 0; shown > -1000011 && i < 40; i++) {
                shown = x.trusted(0, row, i, 1);
                note("row", shown);
            }
            note("items", x.drop(row));
        }
    }

    private void acts() {
        int left = x.undo();
        for (int i = 0; left >= 0 && i < 24; i++) {
            note("left", left);
            strangers();
            left = x.undo();
        }
    }

    private void images() {
        for (int k = 0; k < 2; k++) {
            note("restore", x.restore(k));
            counts();
            town();
        }
    }
}
