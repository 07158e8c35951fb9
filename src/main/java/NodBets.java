/**
 * Bets on what's believed: lies are told to strangers, and one bets on who will nod.
 * Every answer is an int; a call that cannot be answered is refused by an answer, never by a throw.
 */
public final class NodBets {
    public static final int NONE = -1000000, BAD = -1000001, STATE = -1000002, FULL = -1000003;

    private static final int FINDINGS = -1000010;
    private static final int FAULTS = -1000100;
    private static final int ROW_MISSING = 1, NO_PLACE = 2, OTHER_KIND = 3, BELOW_NONE = 4, TWO_LANES = 5;
    private static final int IMAGES = 2;
    private static final int MOST_SUPPERS = 10;

    private final Rows rows = new Rows();
    private final Reader reader = new Reader();
    private final Town current = new Town();
    /** A text is read into this one, so that a fault leaves the current town as it is. */
    private final Town draft = new Town();
    private final Town[] images = new Town[IMAGES];
    private final Acts acts = new Acts();
    private final Foresight foresight = new Foresight();
    private final Asks asks = new Asks();
    private int latestFinding = 0;

    public NodBets() {
        for (int k = 0; k < IMAGES; k++) {
            images[k] = new Town();
        }
    }

    // ---- rows

    public int row(int row, int lane, int n) {
        if (!Rows.isRow(row) || !Rows.isLane(lane) || n > Rows.MOST_ITEMS) {
            return BAD;
        }
        if (n < 0) {
            return found(BELOW_NONE);
        }
        rows.make(row, lane, n);
        return unfound(n);
    }

    public int set(int row, int i, int v) {
        if (!Rows.isRow(row)) {
            return BAD;
        }
        if (rows.isMissing(row)) {
            return found(ROW_MISSING);
        }
        if (!rows.hasPlaces(row, i, 1)) {
            return found(NO_PLACE);
        }
        return unfound(rows.put(row, i, v));
    }

    public int copy(int a, int i, int b, int j, int n) {
        if (!Rows.isRow(a) || !Rows.isRow(b)) {
            return BAD;
        }
        if (rows.isMissing(a) || rows.isMissing(b)) {
            return found(ROW_MISSING);
        }
        if (rows.laneOf(a) != rows.laneOf(b)) {
            return found(TWO_LANES);
        }
        if (!rows.hasPlaces(a, i, n) || !rows.hasPlaces(b, j, n)) {
            return found(NO_PLACE);
        }
        rows.move(a, i, b, j, n);
        return unfound(n);
    }

    public int drop(int row) {
        if (!Rows.isRow(row)) {
            return BAD;
        }
        if (rows.isMissing(row)) {
            return found(ROW_MISSING);
        }
        return unfound(rows.remove(row));
    }

    // ---- towns, acts

    public int feed(int letter) {
        if (letter < 0 || letter > 255) {
            return BAD;
        }
        if (reader.isFull()) {
            return FULL;
        }
        return reader.append(letter);
    }

    public int town() {
        if (!reader.readInto(draft)) {
            return FAULTS - reader.faultPlace();
        }
        current.become(draft);
        acts.clear();
        return current.strangers;
    }

    public int fault() {
        return reader.latestFault();
    }

    public int tell(int stranger, int lie) {
        if (!current.hasStranger(stranger) || !current.hasLie(lie)) {
            return BAD;
        }
        if (current.wasTold(stranger, lie)) {
            return STATE;
        }
        acts.keepAhead(current, stranger);
        Mind mind = foresight.mindOf(current, stranger);
        boolean nodded = mind.hear(current, lie);
        current.noteTold(stranger, lie, nodded, mind.trust);
        return nodded ? 1 : 0;
    }

    public int supper(int stranger) {
        if (!current.hasStranger(stranger)) {
            return BAD;
        }
        acts.keepAhead(current, stranger);
        Mind mind = foresight.mindOf(current, stranger);
        mind.dine();
        current.noteSupper(stranger, mind.trust);
        return mind.trust;
    }

    public int forget(int stranger, int lie) {
        if (!current.hasStranger(stranger) || !current.hasLie(lie)) {
            return BAD;
        }
        if (!current.wasTold(stranger, lie)) {
            return STATE;
        }
        acts.keepAhead(current, stranger);
        current.noteForgotten(stranger, lie);
        return Integer.bitCount(current.told[stranger]);
    }

    public int undo() {
        if (acts.kept() == 0) {
            return STATE;
        }
        acts.undoLatest(current);
        return acts.kept();
    }

    public int lie(int lie, int what) {
        if (!current.hasLie(lie)) {
            return BAD;
        }
        switch (what) {
            case 0: return current.weights[lie];
            case 1: return current.topics[lie];
            case 2: return current.strangersWith(current.told, lie);
            case 3: return current.strangersWith(current.nodded, lie);
            default: return BAD;
        }
    }

    public int stranger(int stranger, int what) {
        if (!current.hasStranger(stranger)) {
            return BAD;
        }
        switch (what) {
            case 0: return current.trusts[stranger];
            case 1: return current.doubts[stranger];
            case 2: return current.told[stranger];
            case 3: return current.nodded[stranger];
            default: return BAD;
        }
    }

    public int need(int stranger, int lie) {
        if (!current.hasStranger(stranger) || !current.hasLie(lie)) {
            return BAD;
        }
        return foresight.mindOf(current, stranger).needOf(current, lie);
    }

    // ---- foretold

    public int nods(int stranger) {
        if (!current.hasStranger(stranger)) {
            return BAD;
        }
        return foresight.nodsNow(current, stranger);
    }

    public int order(int stranger, int lies, int k) {
        if (!current.hasStranger(stranger) || !current.isSetOfLies(lies) || k < -1 || k >= Town.MOST_LIES) {
            return BAD;
        }
        if ((current.told[stranger] & lies) != 0) {
            return STATE;
        }
        foresight.seekOrder(current, stranger, lies);
        return k < 0 ? foresight.bestNods() : foresight.bestAt(k);
    }

    public int comesIn(int stranger, int lie, int what) {
        if (!current.hasStranger(stranger) || !current.hasLie(lie) || what < 0 || what > 1) {
            return BAD;
        }
        if (current.wasTold(stranger, lie)) {
            return STATE;
        }
        int ahead = foresight.fewestAhead(current, stranger, lie);
        if (what == 0) {
            return ahead;
        }
        return ahead > 0 ? foresight.firstAhead() : NONE;
    }

    public int dead(int stranger) {
        if (!current.hasStranger(stranger)) {
            return BAD;
        }
        return foresight.deadLies(current, stranger);
    }

    public int help(int stranger, int what) {
        if (!current.hasStranger(stranger) || what < 0 || what > 1) {
            return BAD;
        }
        int pairs = 0;
        int first = NONE;
        for (int a = 0; a < current.lies; a++) {
            for (int b = a + 1; b < current.lies; b++) {
                if (foresight.helpEachOther(current, stranger, a, b)) {
                    pairs++;
                    first = first == NONE ? 10 * a + b : first;
                }
            }
        }
        return what == 0 ? pairs : first;
    }

    public int suppers(int stranger, int lie) {
        if (!current.hasStranger(stranger) || !current.hasLie(lie)) {
            return BAD;
        }
        if (current.wasTold(stranger, lie)) {
            return STATE;
        }
        Mind mind = foresight.mindOf(current, stranger);
        for (int eaten = 0; eaten <= MOST_SUPPERS; eaten++) {
            if (mind.wouldNod(current, lie)) {
                return eaten;
            }
            mind.dine();
        }
        return NONE;
    }

    public int doubted(int stranger, int row, int i, int n, int what) {
        if (!current.hasStranger(stranger) || !isTelling(row, n) || what < 0 || what > 1) {
            return BAD;
        }
        int refusal = takeTelling(row, i, n);
        if (refusal != 0) {
            return refusal;
        }
        int sets = 0;
        int least = NONE;
        for (int doubts = 0; doubts < 1 << Town.TOPICS; doubts++) {
            if (foresight.goesSo(current, stranger, current.trusts[stranger], doubts)) {
                sets++;
                least = least == NONE ? doubts : least;
            }
        }
        return unfound(what == 0 ? sets : least);
    }

    public int trusted(int stranger, int row, int i, int n) {
        if (!current.hasStranger(stranger) || !isTelling(row, n)) {
            return BAD;
        }
        int refusal = takeTelling(row, i, n);
        if (refusal != 0) {
            return refusal;
        }
        int trusts = 0;
        for (int trust = 0; trust <= Town.MOST_TRUST; trust++) {
            if (foresight.goesSo(current, stranger, trust, current.doubts[stranger])) {
                trusts |= 1 << trust;
            }
        }
        return unfound(trusts);
    }

    public int who(int row, int i, int n) {
        if (!current.stands()) {
            return STATE;
        }
        if (!isTelling(row, n)) {
            return BAD;
        }
        int refusal = takeTelling(row, i, n);
        if (refusal != 0) {
            return refusal;
        }
        int strangers = 0;
        for (int s = 0; s < current.strangers; s++) {
            if (foresight.goesSo(current, s, current.trusts[s], current.doubts[s])) {
                strangers |= 1 << s;
            }
        }
        return unfound(strangers);
    }

    public int odds(int stranger, int row, int i, int n, int k, int c, int what) {
        if (!current.hasStranger(stranger) || !isTelling(row, n)) {
            return BAD;
        }
        if (k < 0 || k > Town.MOST_LIES || c < 0 || c > 10 || what < 0 || what > 1) {
            return BAD;
        }
        int refusal = takeTelling(row, i, n);
        if (refusal != 0) {
            return refusal;
        }
        int above = foresight.waysToNod(current, stranger, k, c);
        int below = foresight.waysInAll();
        int divisor = commonDivisor(above, below);
        return unfound((what == 0 ? above : below) / divisor);
    }

    public int image(int k) {
        if (k < 0 || k >= IMAGES) {
            return BAD;
        }
        if (!current.stands()) {
            return STATE;
        }
        images[k].become(current);
        return 1;
    }

    public int restore(int k) {
        if (k < 0 || k >= IMAGES) {
            return BAD;
        }
        if (!images[k].stands()) {
            return STATE;
        }
        current.become(images[k]);
        acts.clear();
        return 1;
    }

    // ---- asked

    public int kind(int lie) {
        return current.hasLie(lie) ? current.kinds[lie] : BAD;
    }

    public int as(int lie, int kind) {
        if (!current.hasLie(lie) || !Kinds.isKind(kind)) {
            return BAD;
        }
        if (!Kinds.isOne(current.kinds[lie], kind)) {
            return found(OTHER_KIND);
        }
        return unfound(lie);
    }

    public int ask(int lie, int what) {
        if (!current.hasLie(lie) || what < 0 || what > 1) {
            return BAD;
        }
        return asks.answer(current, lie, what);
    }

    public int trace(int i) {
        return asks.traceAt(i);
    }

    public int count(int what) {
        switch (what) {
            case 0: return rows.present();
            case 1: return current.lies;
            case 2: return current.strangers;
            case 3: return current.stake;
            case 4: return current.purse;
            case 5: return acts.kept();
            case 6: return reader.length();
            default: return BAD;
        }
    }

    public int status() {
        return latestFinding;
    }

    // ---- within

    private int found(int finding) {
        latestFinding = finding;
        return FINDINGS - finding;
    }

    private int unfound(int answer) {
        latestFinding = 0;
        return answer;
    }

    private static boolean isTelling(int row, int n) {
        return Rows.isRow(row) && n >= 0 && n <= Foresight.MOST_TOLD;
    }

    /** Answers 0 if the row's lies and nods lie ready in the foresight, else what refuses them. */
    private int takeTelling(int row, int i, int n) {
        if (rows.isMissing(row)) {
            return found(ROW_MISSING);
        }
        if (!rows.hasPlaces(row, i, 2 * n)) {
            return found(NO_PLACE);
        }
        return foresight.takeTelling(current, rows, row, i, n) ? 0 : BAD;
    }

    /** At least 1 for all numbers, so that it can always divide. */
    private static int commonDivisor(int a, int b) {
        int larger = Math.max(a, b);
        int smaller = Math.min(a, b);
        // Each two steps halve the larger one, so 64 are enough for any ints.
        for (int step = 0; step < 64 && smaller > 0; step++) {
            int rest = larger % smaller;
            larger = smaller;
            smaller = rest;
        }
        return Math.max(larger, 1);
    }

    /** All rows lie in one array, so that a new row makes no new one. */
    private static final class Rows {
        static final int ROWS = 8, MOST_ITEMS = 40;
        static final int BYTES = 0, SHORTS = 1, INTS = 2;
        private static final int MISSING = -1;

        private final int[] lanes = new int[ROWS];
        private final int[] lengths = new int[ROWS];
        private final int[] items = new int[ROWS * MOST_ITEMS];

        Rows() {
            for (int row = 0; row < ROWS; row++) {
                lanes[row] = MISSING;
            }
        }

        static boolean isRow(int row) {
            return row >= 0 && row < ROWS;
        }

        static boolean isLane(int lane) {
            return lane >= BYTES && lane <= INTS;
        }

        boolean isMissing(int row) {
            return lanes[row] == MISSING;
        }

        int laneOf(int row) {
            return lanes[row];
        }

        /** Takes the length less n, which cannot overflow as i and n might. */
        boolean hasPlaces(int row, int i, int n) {
            return i >= 0 && n >= 0 && i <= lengths[row] - n;
        }

        void make(int row, int lane, int n) {
            lanes[row] = lane;
            lengths[row] = n;
            for (int i = 0; i < n; i++) {
                items[row * MOST_ITEMS + i] = 0;
            }
        }

        int put(int row, int i, int v) {
            int kept = cutToLane(v, lanes[row]);
            items[row * MOST_ITEMS + i] = kept;
            return kept;
        }

        int itemAt(int row, int i) {
            return items[row * MOST_ITEMS + i];
        }

        void move(int a, int i, int b, int j, int n) {
            System.arraycopy(items, a * MOST_ITEMS + i, items, b * MOST_ITEMS + j, n);
        }

        int remove(int row) {
            int had = lengths[row];
            lanes[row] = MISSING;
            lengths[row] = 0;
            return had;
        }

        int present() {
            int present = 0;
            for (int row = 0; row < ROWS; row++) {
                present += lanes[row] == MISSING ? 0 : 1;
            }
            return present;
        }

        private static int cutToLane(int v, int lane) {
            switch (lane) {
                case BYTES: return (byte) v;
                case SHORTS: return (short) v;
                default: return v;
            }
        }
    }

    /** The kinds of lies, each but the first one a kind of another. */
    private static final class Kinds {
        static final int LIE = 0, EASY = 1, ABSURD = 2, HABIT = 3, PROOF = 4, LAME = 5;
        static final int KINDS = 6;
        /** LIE is told as above itself: who climbs stays there. */
        private static final int[] ABOVE = {LIE, LIE, EASY, EASY, LIE, PROOF};

        static boolean isKind(int kind) {
            return kind >= 0 && kind < KINDS;
        }

        static boolean isOne(int kind, int wanted) {
            int climbing = kind;
            for (int step = 0; step < KINDS && climbing != wanted; step++) {
                climbing = above(climbing);
            }
            return climbing == wanted;
        }

        static int above(int kind) {
            return isKind(kind) ? ABOVE[kind] : LIE;
        }

        /** Answers LIE for a letter that begins no lie, as none is told as a mere LIE. */
        static int ofLetter(int letter) {
            switch (letter) {
                case 'e': return EASY;
                case 'a': return ABSURD;
                case 'h': return HABIT;
                case 'p': return PROOF;
                case 'l': return LAME;
                default: return LIE;
            }
        }
    }

    /** A town as it stands; with no stake, there is none. */
    private static final class Town {
        static final int MOST_LIES = 6, MOST_STRANGERS = 4, TOPICS = 4, MOST_TRUST = 20;

        int stake = 0;
        int purse = 0;
        int lies = 0;
        int strangers = 0;
        final int[] kinds = new int[MOST_LIES];
        final int[] weights = new int[MOST_LIES];
        final int[] topics = new int[MOST_LIES];
        final int[] trusts = new int[MOST_STRANGERS];
        final int[] doubts = new int[MOST_STRANGERS];
        final int[] told = new int[MOST_STRANGERS];
        final int[] nodded = new int[MOST_STRANGERS];

        boolean stands() {
            return stake > 0;
        }

        boolean hasLie(int lie) {
            return lie >= 0 && lie < lies;
        }

        boolean hasStranger(int stranger) {
            return stranger >= 0 && stranger < strangers;
        }

        boolean isSetOfLies(int set) {
            return set >= 0 && set < 1 << lies;
        }

        boolean wasTold(int stranger, int lie) {
            return (told[stranger] >> lie & 1) != 0;
        }

        int untold(int stranger) {
            return (1 << lies) - 1 & ~told[stranger];
        }

        int strangersWith(int[] sets, int lie) {
            int with = 0;
            for (int s = 0; s < strangers && s < sets.length; s++) {
                with += sets[s] >> lie & 1;
            }
            return with;
        }

        void begin(int newStake) {
            stake = newStake;
            purse = 0;
            lies = 0;
            strangers = 0;
        }

        void addLie(int kind, int weight, int topic) {
            if (lies < MOST_LIES) {
                kinds[lies] = kind;
                weights[lies] = weight;
                topics[lies] = topic;
                lies++;
            }
        }

        void addStranger(int trust, int doubtedTopics) {
            if (strangers < MOST_STRANGERS) {
                trusts[strangers] = trust;
                doubts[strangers] = doubtedTopics;
                told[strangers] = 0;
                nodded[strangers] = 0;
                strangers++;
            }
        }

        void become(Town other) {
            stake = other.stake;
            purse = other.purse;
            lies = other.lies;
            strangers = other.strangers;
            for (int lie = 0; lie < MOST_LIES; lie++) {
                kinds[lie] = other.kinds[lie];
                weights[lie] = other.weights[lie];
                topics[lie] = other.topics[lie];
            }
            for (int s = 0; s < MOST_STRANGERS; s++) {
                trusts[s] = other.trusts[s];
                doubts[s] = other.doubts[s];
                told[s] = other.told[s];
                nodded[s] = other.nodded[s];
            }
        }

        void noteTold(int stranger, int lie, boolean nods, int trustThen) {
            told[stranger] |= 1 << lie;
            if (nods) {
                nodded[stranger] |= 1 << lie;
            }
            purse += nods ? stake : -stake;
            trusts[stranger] = trustThen;
        }

        void noteSupper(int stranger, int trustThen) {
            purse--;
            trusts[stranger] = trustThen;
        }

        void noteForgotten(int stranger, int lie) {
            told[stranger] &= ~(1 << lie);
            nodded[stranger] &= ~(1 << lie);
        }
    }

    /** The tape, and the reading of it. */
    private static final class Reader {
        private static final int MOST_BYTES = 120;
        private static final int CANNOT_STAND = 1, NOT_AS_TOLD = 2, NO_ROOM = 3;
        private static final int END = -1, FAULTY = -1;

        private final int[] tape = new int[MOST_BYTES];
        private int bytes = 0;
        /** The first byte of the token that is looked at; where a fault is, it stays there. */
        private int at = 0;
        private int latest = 0;

        boolean isFull() {
            return bytes >= MOST_BYTES;
        }

        int append(int letter) {
            if (bytes < MOST_BYTES) {
                tape[bytes] = letter;
                bytes++;
            }
            return bytes;
        }

        int length() {
            return bytes;
        }

        int faultPlace() {
            return at;
        }

        int latestFault() {
            return latest;
        }

        /** Whether a whole town was read; the tape is empty then. */
        boolean readInto(Town draft) {
            at = 0;
            boolean whole = readLaw(draft) && readLies(draft) && readStrangers(draft);
            if (whole && at < bytes) {
                whole = refuse(CANNOT_STAND);
            }
            bytes = 0;
            return whole;
        }

        private boolean readLaw(Town draft) {
            if (!passed('t')) {
                return false;
            }
            int stake = readNumber(1, 9);
            if (stake == FAULTY || !passed(';')) {
                return false;
            }
            draft.begin(stake);
            return true;
        }

        private boolean readLies(Town draft) {
            for (int read = 0; read <= Town.MOST_LIES; read++) {
                int kind = Kinds.ofLetter(here());
                if (kind == Kinds.LIE) {
                    return true;
                }
                if (read == Town.MOST_LIES) {
                    return refuse(NO_ROOM);
                }
                at++;
                int weight = readNumber(1, 20);
                if (weight == FAULTY || !passed(',')) {
                    return false;
                }
                int topic = readNumber(0, Town.TOPICS - 1);
                if (topic == FAULTY || !passed(';')) {
                    return false;
                }
                draft.addLie(kind, weight, topic);
            }
            return true;
        }

        private boolean readStrangers(Town draft) {
            for (int read = 0; read <= Town.MOST_STRANGERS; read++) {
                if (here() != 's') {
                    return true;
                }
                if (read == Town.MOST_STRANGERS) {
                    return refuse(NO_ROOM);
                }
                at++;
                int trust = readNumber(0, Town.MOST_TRUST);
                if (trust == FAULTY || !passed(',')) {
                    return false;
                }
                int doubts = readNumber(0, (1 << Town.TOPICS) - 1);
                if (doubts == FAULTY || !passed(';')) {
                    return false;
                }
                draft.addStranger(trust, doubts);
            }
            return true;
        }

        private int readNumber(int least, int most) {
            int figures = 0;
            int value = 0;
            // A third figure makes the run no number, so that what lies behind it does not matter.
            while (figures < 3 && isFigure(byteAt(at + figures))) {
                value = 10 * value + byteAt(at + figures) - '0';
                figures++;
            }
            if (figures < 1 || figures > 2) {
                refuse(CANNOT_STAND);
                return FAULTY;
            }
            if (value < least || value > most) {
                refuse(NOT_AS_TOLD);
                return FAULTY;
            }
            at += figures;
            return value;
        }

        private boolean passed(int letter) {
            if (here() != letter) {
                return refuse(CANNOT_STAND);
            }
            at++;
            return true;
        }

        private boolean refuse(int number) {
            latest = number;
            return false;
        }

        private int here() {
            return byteAt(at);
        }

        private int byteAt(int place) {
            return place >= 0 && place < bytes ? tape[place] : END;
        }

        private static boolean isFigure(int letter) {
            return letter >= '0' && letter <= '9';
        }
    }

    /** Of each act, the latest last: what it was to change, as it was ahead of it. */
    private static final class Acts {
        private static final int MOST_ACTS = 24;

        private final int[] strangers = new int[MOST_ACTS];
        private final int[] trusts = new int[MOST_ACTS];
        private final int[] told = new int[MOST_ACTS];
        private final int[] nodded = new int[MOST_ACTS];
        private final int[] purses = new int[MOST_ACTS];
        /** The places go round: of more acts than there is room for, the latest takes the oldest's. */
        private int next = 0;
        private int kept = 0;

        int kept() {
            return kept;
        }

        void clear() {
            kept = 0;
        }

        void keepAhead(Town town, int stranger) {
            strangers[next] = stranger;
            trusts[next] = town.trusts[stranger];
            told[next] = town.told[stranger];
            nodded[next] = town.nodded[stranger];
            purses[next] = town.purse;
            next = next + 1 < MOST_ACTS ? next + 1 : 0;
            kept = Math.min(kept + 1, MOST_ACTS);
        }

        void undoLatest(Town town) {
            next = next > 0 ? next - 1 : MOST_ACTS - 1;
            kept--;
            int stranger = strangers[next];
            town.trusts[stranger] = trusts[next];
            town.told[stranger] = told[next];
            town.nodded[stranger] = nodded[next];
            town.purse = purses[next];
        }
    }

    /**
     * What decides a stranger's nods, apart from the town, so that telling can be tried on it.
     * It counts lies and keeps no sets: a lie that is told anew counts once more.
     */
    private static final class Mind {
        private static final int PROOF_ALONE = 20, TOO_LAME = 99, DOUBT = 3;

        int trust = 0;
        int doubts = 0;
        private int toldSoFar = 0;
        private final int[] nodsOfTopic = new int[Town.TOPICS];

        void enter(Town town, int stranger) {
            trust = town.trusts[stranger];
            doubts = town.doubts[stranger];
            toldSoFar = Integer.bitCount(town.told[stranger]);
            for (int topic = 0; topic < Town.TOPICS; topic++) {
                nodsOfTopic[topic] = 0;
            }
            for (int lie = 0; lie < town.lies; lie++) {
                nodsOfTopic[town.topics[lie]] += town.nodded[stranger] >> lie & 1;
            }
        }

        void become(Mind other) {
            trust = other.trust;
            doubts = other.doubts;
            toldSoFar = other.toldSoFar;
            for (int topic = 0; topic < Town.TOPICS; topic++) {
                nodsOfTopic[topic] = other.nodsOfTopic[topic];
            }
        }

        int needOf(Town town, int lie) {
            int topic = town.topics[lie];
            int doubt = (doubts >> topic & 1) != 0 ? DOUBT : 0;
            return doubt + undoubtedNeed(town.kinds[lie], town.weights[lie], nodsOfTopic[topic]);
        }

        boolean wouldNod(Town town, int lie) {
            return trust >= needOf(town, lie);
        }

        boolean hear(Town town, int lie) {
            boolean nods = wouldNod(town, lie);
            hearAs(town, lie, nods);
            return nods;
        }

        void hearAs(Town town, int lie, boolean nods) {
            toldSoFar++;
            if (nods) {
                nodsOfTopic[town.topics[lie]]++;
                trust = Math.min(trust + 1, Town.MOST_TRUST);
            } else {
                trust = Math.max(trust - town.weights[lie] / 4 - 1, 0);
            }
        }

        void dine() {
            trust = Math.min(trust + 2, Town.MOST_TRUST);
        }

        private int undoubtedNeed(int kind, int weight, int nodsAlike) {
            switch (kind) {
                case Kinds.ABSURD: return 2 * weight;
                case Kinds.HABIT: return Math.max(weight - 2 * nodsAlike, 0);
                case Kinds.PROOF:
                case Kinds.LAME:
                    if (kind == Kinds.LAME && toldSoFar < 2) {
                        return TOO_LAME;
                    }
                    return nodsAlike > 0 ? 0 : PROOF_ALONE + weight;
                default: return weight;
            }
        }
    }

    /** What is foretold: all telling here is tried on minds, and the town stays as it is. */
    private static final class Foresight {
        static final int MOST_TOLD = 6;

        /** Mind d is the stranger's after d lies; those deeper are free to be tried on. */
        private final Mind[] minds = new Mind[MOST_TOLD + 1];
        private final int[] path = new int[MOST_TOLD];
        private final int[] best = new int[MOST_TOLD];
        private int bestLength = 0;
        private int bestNodded = 0;
        private final int[] tellingLies = new int[MOST_TOLD];
        private final int[] tellingNods = new int[MOST_TOLD];
        private int tellingLength = 0;

        Foresight() {
            for (int depth = 0; depth <= MOST_TOLD; depth++) {
                minds[depth] = new Mind();
            }
        }

        Mind mindOf(Town town, int stranger) {
            minds[0].enter(town, stranger);
            return minds[0];
        }

        int nodsNow(Town town, int stranger) {
            Mind mind = mindOf(town, stranger);
            int untold = town.untold(stranger);
            int nods = 0;
            for (int lie = 0; lie < town.lies; lie++) {
                if ((untold >> lie & 1) != 0 && mind.wouldNod(town, lie)) {
                    nods |= 1 << lie;
                }
            }
            return nods;
        }

        void seekOrder(Town town, int stranger, int lies) {
            mindOf(town, stranger);
            bestLength = 0;
            bestNodded = -1;
            seekOrderFrom(town, 0, lies, 0);
        }

        int bestNods() {
            return bestNodded;
        }

        int bestAt(int k) {
            return k >= 0 && k < bestLength ? best[k] : NONE;
        }

        private void seekOrderFrom(Town town, int depth, int left, int nodded) {
            // Orders come by numbers, so that one that is only as good as an earlier one is not wanted.
            if (nodded + Integer.bitCount(left) <= bestNodded) {
                return;
            }
            if (left == 0 || depth >= MOST_TOLD) {
                keepBest(depth, nodded);
                return;
            }
            for (int lie = 0; lie < town.lies; lie++) {
                if ((left >> lie & 1) != 0) {
                    boolean nods = tryNext(town, depth, lie);
                    seekOrderFrom(town, depth + 1, left & ~(1 << lie), nods ? nodded + 1 : nodded);
                }
            }
        }

        private void keepBest(int length, int nodded) {
            bestLength = length;
            bestNodded = nodded;
            for (int k = 0; k < length; k++) {
                best[k] = path[k];
            }
        }

        /** Whether a stranger nods at a lie as the next behind those of the path. */
        private boolean tryNext(Town town, int depth, int lie) {
            path[depth] = lie;
            boolean nods = minds[depth].wouldNod(town, lie);
            minds[depth + 1].become(minds[depth]);
            minds[depth + 1].hearAs(town, lie, nods);
            return nods;
        }

        int fewestAhead(Town town, int stranger, int lie) {
            mindOf(town, stranger);
            int others = town.untold(stranger) & ~(1 << lie);
            int most = Integer.bitCount(others);
            for (int ahead = 0; ahead <= most; ahead++) {
                if (comesInFrom(town, 0, others, lie, ahead)) {
                    return ahead;
                }
            }
            return NONE;
        }

        /** The first lie of the row that fewestAhead found, if that row has one. */
        int firstAhead() {
            return path[0];
        }

        private boolean comesInFrom(Town town, int depth, int left, int lie, int ahead) {
            if (depth >= ahead || depth >= MOST_TOLD) {
                return minds[depth].wouldNod(town, lie);
            }
            for (int next = 0; next < town.lies; next++) {
                if ((left >> next & 1) != 0) {
                    tryNext(town, depth, next);
                    if (comesInFrom(town, depth + 1, left & ~(1 << next), lie, ahead)) {
                        return true;
                    }
                }
            }
            return false;
        }

        int deadLies(Town town, int stranger) {
            mindOf(town, stranger);
            int untold = town.untold(stranger);
            return deadFrom(town, 0, untold, untold);
        }

        /** Which of the lies that have seemed dead so far still do, after all orders of those left. */
        private int deadFrom(Town town, int depth, int left, int seeming) {
            int dead = seeming;
            if (depth >= MOST_TOLD) {
                return dead;
            }
            for (int lie = 0; lie < town.lies && dead != 0; lie++) {
                if ((left >> lie & 1) != 0) {
                    if (tryNext(town, depth, lie)) {
                        dead &= ~(1 << lie);
                    }
                    dead = deadFrom(town, depth + 1, left & ~(1 << lie), dead);
                }
            }
            return dead;
        }

        boolean helpEachOther(Town town, int stranger, int a, int b) {
            if (town.wasTold(stranger, a) || town.wasTold(stranger, b)) {
                return false;
            }
            mindOf(town, stranger);
            return bringsIn(town, a, b) || bringsIn(town, b, a);
        }

        private boolean bringsIn(Town town, int ahead, int lie) {
            if (minds[0].wouldNod(town, lie)) {
                return false;
            }
            tryNext(town, 0, ahead);
            return minds[1].wouldNod(town, lie);
        }

        /** Whether every lie that the row tells is one; only then it is kept for the calls below. */
        boolean takeTelling(Town town, Rows rows, int row, int i, int n) {
            for (int t = 0; t < n; t++) {
                int lie = rows.itemAt(row, i + 2 * t);
                if (!town.hasLie(lie)) {
                    return false;
                }
                tellingLies[t] = lie;
                tellingNods[t] = rows.itemAt(row, i + 2 * t + 1);
            }
            tellingLength = n;
            return true;
        }

        boolean goesSo(Town town, int stranger, int trust, int doubts) {
            Mind mind = mindOf(town, stranger);
            mind.trust = trust;
            mind.doubts = doubts;
            for (int t = 0; t < tellingLength; t++) {
                int nods = mind.hear(town, tellingLies[t]) ? 1 : 0;
                if (nods != tellingNods[t]) {
                    return false;
                }
            }
            return true;
        }

        /** Of waysInAll, each as likely as another, those in which a stranger nods k times or more. */
        int waysToNod(Town town, int stranger, int k, int c) {
            mindOf(town, stranger);
            return waysFrom(town, 0, k, c);
        }

        /** Each lie told goes one of ten ways, c of which let a nod slip. */
        int waysInAll() {
            int ways = 1;
            for (int t = 0; t < tellingLength; t++) {
                ways *= 10;
            }
            return ways;
        }

        private int waysFrom(Town town, int depth, int wanted, int c) {
            if (depth >= tellingLength || depth >= MOST_TOLD) {
                return wanted <= 0 ? 1 : 0;
            }
            int lie = tellingLies[depth];
            boolean nods = minds[depth].wouldNod(town, lie);
            minds[depth + 1].become(minds[depth]);
            minds[depth + 1].hearAs(town, lie, false);
            int unnodded = waysFrom(town, depth + 1, wanted, c);
            if (!nods) {
                return 10 * unnodded;
            }
            minds[depth + 1].become(minds[depth]);
            minds[depth + 1].hearAs(town, lie, true);
            return c * unnodded + (10 - c) * waysFrom(town, depth + 1, wanted - 1, c);
        }
    }

    /** Asks of lies, by bodies that call one another, and the trace that the latest ask left. */
    private static final class Asks {
        private static final int SIZE = 0;
        /** By kind; with 0 the kind has no body of its own. */
        private static final int[] SIZE_BODIES = {10, 11, 12, 0, 13, 14};
        private static final int[] MARK_BODIES = {20, 21, 24, 22, 23, 0};
        private static final int MOST_TRACED = 16;
        /** The longest chain of bodies has five; a deeper one cannot be. */
        private static final int DEEPEST = 20;

        private final int[] traced = new int[MOST_TRACED];
        private int tracedLength = 0;

        int answer(Town town, int lie, int what) {
            tracedLength = 0;
            return what == SIZE ? sizeOf(town, lie, 0) : markOf(town, lie, 0);
        }

        int traceAt(int i) {
            return i >= 0 && i < tracedLength ? traced[i] : NONE;
        }

        private int sizeOf(Town town, int lie, int depth) {
            return run(town, nearestBody(SIZE_BODIES, town.kinds[lie]), lie, depth);
        }

        private int markOf(Town town, int lie, int depth) {
            return run(town, nearestBody(MARK_BODIES, town.kinds[lie]), lie, depth);
        }

        private static int nearestBody(int[] bodies, int kind) {
            int climbing = kind;
            for (int step = 0; step < Kinds.KINDS && bodies[climbing] == 0; step++) {
                climbing = Kinds.above(climbing);
            }
            return bodies[climbing];
        }

        private int run(Town town, int body, int lie, int depth) {
            if (depth > DEEPEST) {
                return 0;
            }
            leaveTrace(body);
            int deeper = depth + 1;
            switch (body) {
                case 10: return town.weights[lie];
                case 11: return run(town, 10, lie, deeper) + markOf(town, lie, deeper);
                case 12: return -run(town, 11, lie, deeper);
                case 13: return run(town, 10, lie, deeper) - 100;
                case 14: return 2 * run(town, 13, lie, deeper);
                case 20: return lie;
                case 21: return run(town, 20, lie, deeper) + town.strangersWith(town.nodded, lie);
                case 22: return run(town, 21, lie, deeper) - 1000;
                case 23: return run(town, 20, lie, deeper) - sizeOf(town, lie, deeper);
                case 24: return 2 * run(town, 21, lie, deeper);
                default: return 0;
            }
        }

        private void leaveTrace(int body) {
            if (tracedLength < MOST_TRACED) {
                traced[tracedLength] = body;
                tracedLength++;
            }
        }
    }
}
