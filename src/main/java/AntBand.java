/** An ant on a rubber band. What each call answers is told in DOC.md, by numbered promises. */
public final class AntBand {
    public static final int NONE = -1000000, BAD = -1000001, STATE = -1000002, FULL = -1000003;

    private static final int FINDINGS = -1000010, FAULTS = -1000100;
    private static final int NULL = 1, PLACE = 2, KIND = 3, SIZE = 4, STORE = 5;
    private static final int MINUTES_AT_ONCE = 24, MINUTE_MOST = 999;
    private static final int AHEAD_MOST = 99, ROW_MINUTES_MOST = 12, WIND_MINUTES_MOST = 8;
    private static final int STEP_MOST = 20, INCHES_MOST = 99, HUNDREDTH_MOST = 99;
    private static final int SEED_MOST = 999999, IMAGES = 2;

    private final Band now;
    private final Rows rows;
    private final Tape tape;
    private final Acts acts;
    private final Foretold foretold;
    private final Asks asks;
    private final Band[] images;
    private final boolean[] imageKept;
    private boolean hasWall;
    private int latestFinding;

    /** Everything that calls need is made here and used again, so that calls make no objects. */
    public AntBand() {
        now = new Band();
        rows = new Rows();
        tape = new Tape();
        acts = new Acts();
        foretold = new Foretold();
        asks = new Asks();
        images = new Band[IMAGES];
        for (int k = 0; k < IMAGES; k++) {
            images[k] = new Band();
        }
        imageKept = new boolean[IMAGES];
        hasWall = false;
        latestFinding = 0;
    }

    // ---- rows

    public int row(int row, int lane, int n) {
        if (!rows.isNumber(row) || lane < 0 || lane > Rows.LANE_LAST || n > Rows.ITEMS_MOST) {
            return BAD;
        }
        if (n < 0) {
            return found(SIZE);
        }
        rows.make(row, lane, n);
        return fine(n);
    }

    public int set(int row, int i, int v) {
        if (!rows.isNumber(row)) {
            return BAD;
        }
        int finding = rowFinding(row, i, 1);
        if (finding != 0) {
            return found(finding);
        }
        return fine(rows.put(row, i, v));
    }

    public int copy(int a, int i, int b, int j, int n) {
        if (!rows.isNumber(a) || !rows.isNumber(b)) {
            return BAD;
        }
        if (rows.isMissing(a) || rows.isMissing(b)) {
            return found(NULL);
        }
        if (rows.lanes[a] != rows.lanes[b]) {
            return found(STORE);
        }
        if (!rows.hasPlaces(a, i, n) || !rows.hasPlaces(b, j, n)) {
            return found(PLACE);
        }
        System.arraycopy(rows.items[a], i, rows.items[b], j, n);
        return fine(n);
    }

    public int drop(int row) {
        if (!rows.isNumber(row)) {
            return BAD;
        }
        if (rows.isMissing(row)) {
            return found(NULL);
        }
        return fine(rows.lose(row));
    }

    // ---- what is told

    public int feed(int letter) {
        if (letter < 0 || letter > 255) {
            return BAD;
        }
        if (tape.length >= Tape.BYTES_MOST) {
            return FULL;
        }
        return tape.add(letter);
    }

    public int wall() {
        // read aside, so that a FAULT leaves the WALL that stands
        Band told = foretold.then;
        boolean good = tape.readWall(told);
        tape.length = 0;
        if (!good) {
            return FAULTS - tape.at;
        }
        now.takeFrom(told);
        hasWall = true;
        acts.forget();
        return now.antCount;
    }

    public int fault() {
        return tape.latestFault;
    }

    public int undo() {
        if (acts.kept == 0) {
            return STATE;
        }
        return acts.takeBack(now);
    }

    // ---- what is done

    public int minutes(int n) {
        if (!hasWall) {
            return STATE;
        }
        if (n < 1 || n > MINUTES_AT_ONCE) {
            return BAD;
        }
        if (now.minute + n > MINUTE_MOST) {
            return FULL;
        }
        for (int m = 0; m < n; m++) {
            acts.keep(now);
            now.passMinute(Band.NOBODY);
        }
        return now.length;
    }

    public int pull(int pull, int inches) {
        if (pull < 0 || pull >= now.pullCount || inches < 0 || inches > INCHES_MOST) {
            return BAD;
        }
        acts.keep(now);
        int was = now.inches[pull];
        now.inches[pull] = inches;
        return was;
    }

    public int letGo() {
        if (!hasWall) {
            return STATE;
        }
        acts.keep(now);
        now.slacken();
        return now.length;
    }

    public int place(int ant, int at) {
        if (!now.hasAnt(ant) || at < 0 || at > HUNDREDTH_MOST) {
            return BAD;
        }
        Ant one = now.ants[ant];
        if (one.arrived) {
            return STATE;
        }
        acts.keep(now);
        int was = one.hundredth();
        one.part = at * Ant.HUNDREDTH;
        return was;
    }

    public int step(int ant, int n) {
        if (!now.hasAnt(ant) || n < 1 || n > STEP_MOST) {
            return BAD;
        }
        acts.keep(now);
        int was = now.ants[ant].step;
        now.ants[ant].step = n;
        return was;
    }

    public int ant(int ant, int what) {
        if (!now.hasAnt(ant)) {
            return BAD;
        }
        Ant one = now.ants[ant];
        switch (what) {
            case 0:
                return one.step;
            case 1:
                return one.rest;
            case 2:
                return one.part;
            case 3:
                return one.arrived ? 1 : 0;
            case 4:
                return one.arrived ? 100 : 100 + one.gait(now.minute);
            case 5:
                return one.from;
            default:
                return BAD;
        }
    }

    public int pulls(int k) {
        if (k < 0) {
            return BAD;
        }
        return k < now.pullCount ? now.inches[k] : NONE;
    }

    // ---- foretold

    public int ahead(int ant, int n) {
        if (!now.hasAnt(ant) || n < 0 || n > AHEAD_MOST) {
            return BAD;
        }
        return foretold.partBehind(now, ant, n);
    }

    public int band(int n, int what) {
        if (!hasWall) {
            return STATE;
        }
        if (n < 0 || n > AHEAD_MOST || what < 0 || what > 1) {
            return BAD;
        }
        foretold.lookAhead(now, n);
        return what == 0 ? foretold.then.length : foretold.then.arrivedBits();
    }

    public int arrives(int ant) {
        if (!now.hasAnt(ant)) {
            return BAD;
        }
        return foretold.arrival(now, ant);
    }

    public int leads(int n) {
        if (!hasWall) {
            return STATE;
        }
        if (n < 0 || n > AHEAD_MOST) {
            return BAD;
        }
        foretold.lookAhead(now, n);
        return foretold.then.firstAhead();
    }

    public int meet(int ant, int other) {
        if (!now.hasAnt(ant) || !now.hasAnt(other) || ant == other) {
            return BAD;
        }
        return foretold.meeting(now, ant, other);
    }

    public int fast(int ant, int n) {
        if (!isAskedAhead(ant, n)) {
            return BAD;
        }
        return now.ants[ant].arrived ? STATE : foretold.leastStep(now, ant, n);
    }

    public int pullFor(int ant, int n) {
        if (!isAskedAhead(ant, n)) {
            return BAD;
        }
        return now.ants[ant].arrived ? STATE : foretold.greatestPull(now, ant, n);
    }

    public int order(int ant, int late, int k) {
        if (!now.hasAnt(ant) || late < 0 || late > 1 || k < -1) {
            return BAD;
        }
        if (now.ants[ant].arrived) {
            return STATE;
        }
        if (k >= now.pullCount) {
            return NONE;
        }
        int behind = foretold.bestOrder(now, ant, late == 1);
        return k == -1 ? behind : foretold.best[k];
    }

    public int half(int ant) {
        if (!now.hasAnt(ant)) {
            return BAD;
        }
        return now.ants[ant].arrived ? STATE : foretold.halfCrossed(now, ant);
    }

    public int rest(int ant, int n) {
        if (!isAskedAhead(ant, n)) {
            return BAD;
        }
        return now.ants[ant].arrived ? STATE : foretold.bestRest(now, ant, n);
    }

    public int passed(int ant, int n) {
        if (!isAskedAhead(ant, n)) {
            return BAD;
        }
        return foretold.passing(now, ant, n);
    }

    public int who(int ant, int which, int row, int i, int n) {
        if (!now.hasAnt(ant) || which < 0 || which > 2 || !isRowAsked(row, n)) {
            return BAD;
        }
        int finding = rowFinding(row, i, n);
        if (finding != 0) {
            return found(finding);
        }
        foretold.readMarks(rows.items[row], i, n);
        return fine(foretold.fitting(now, ant, which));
    }

    public int which(int row, int i, int n) {
        if (!hasWall) {
            return STATE;
        }
        if (!isRowAsked(row, n)) {
            return BAD;
        }
        int finding = rowFinding(row, i, n);
        if (finding != 0) {
            return found(finding);
        }
        foretold.readMarks(rows.items[row], i, n);
        return fine(foretold.fittingAnts(now));
    }

    public int inches(int ant) {
        if (!now.hasAnt(ant)) {
            return BAD;
        }
        return (int) ((long) now.ants[ant].part * now.length / Ant.WHOLE);
    }

    public long wind(int ant, int n, int p, int what) {
        if (!now.hasAnt(ant) || n < 0 || n > WIND_MINUTES_MOST) {
            return BAD;
        }
        if (p < 0 || p > Foretold.CASES || what < 0 || what > 1) {
            return BAD;
        }
        foretold.blow(now, ant, n, p);
        return what == 0 ? foretold.above : foretold.below;
    }

    public int drawn(int n, int seed, int what) {
        if (!hasWall) {
            return STATE;
        }
        if (n < 0 || n > AHEAD_MOST || seed < 1 || seed > SEED_MOST || what < 0 || what > 1) {
            return BAD;
        }
        foretold.walkByDraws(now, n, seed);
        return what == 0 ? Integer.bitCount(foretold.then.arrivedBits()) : foretold.then.length;
    }

    public int image(int k) {
        if (k < 0 || k >= IMAGES) {
            return BAD;
        }
        if (!hasWall) {
            return STATE;
        }
        images[k].takeFrom(now);
        imageKept[k] = true;
        return 1;
    }

    public int restore(int k) {
        if (k < 0 || k >= IMAGES) {
            return BAD;
        }
        if (!imageKept[k]) {
            return STATE;
        }
        now.takeFrom(images[k]);
        acts.forget();
        return 1;
    }

    // ---- asked

    public int kind(int one) {
        return now.hasAnt(one) ? now.ants[one].kind : BAD;
    }

    public int as(int one, int kind) {
        if (!now.hasAnt(one) || kind < 0 || kind > Ant.KIND_LAST) {
            return BAD;
        }
        return now.ants[one].isOf(kind) ? fine(one) : found(KIND);
    }

    public int ask(int one, int what) {
        if (!now.hasAnt(one) || what < 0 || what > 1) {
            return BAD;
        }
        return asks.answer(now.ants[one], one, what == 0);
    }

    public int trace(int i) {
        return i >= 0 && i < asks.traceLength ? asks.trace[i] : NONE;
    }

    public int count(int what) {
        switch (what) {
            case 0:
                return rows.present();
            case 1:
                return now.pullCount;
            case 2:
                return now.antCount;
            case 3:
                return now.minute;
            case 4:
                return now.length;
            case 5:
                return now.arrivedBits();
            case 6:
                return acts.kept;
            case 7:
                return tape.length;
            default:
                return BAD;
        }
    }

    public int status() {
        return latestFinding;
    }

    private int found(int finding) {
        latestFinding = finding;
        return FINDINGS - finding;
    }

    private int fine(int answer) {
        latestFinding = 0;
        return answer;
    }

    private int rowFinding(int row, int i, int n) {
        if (rows.isMissing(row)) {
            return NULL;
        }
        return rows.hasPlaces(row, i, n) ? 0 : PLACE;
    }

    private boolean isRowAsked(int row, int n) {
        return rows.isNumber(row) && n >= 1 && n <= ROW_MINUTES_MOST;
    }

    private boolean isAskedAhead(int ant, int n) {
        return now.hasAnt(ant) && n >= 1 && n <= AHEAD_MOST;
    }

    /** The ROWS: their ITEMS are held as ints that a LANE has already cut. */
    private static final class Rows {
        static final int ROWS = 8, ITEMS_MOST = 40, LANE_LAST = 2;
        private static final int BYTES = 0, SHORTS = 1, MISSING = -1;

        final int[][] items;
        final int[] lanes;
        final int[] sizes;

        Rows() {
            items = new int[ROWS][ITEMS_MOST];
            lanes = new int[ROWS];
            sizes = new int[ROWS];
            for (int row = 0; row < ROWS; row++) {
                sizes[row] = MISSING;
            }
        }

        boolean isNumber(int row) {
            return row >= 0 && row < ROWS;
        }

        boolean isMissing(int row) {
            return !isNumber(row) || sizes[row] == MISSING;
        }

        boolean hasPlaces(int row, int i, int n) {
            return !isMissing(row) && i >= 0 && n >= 0 && i <= sizes[row] - n;
        }

        void make(int row, int lane, int n) {
            lanes[row] = lane;
            sizes[row] = n;
            for (int i = 0; i < n; i++) {
                items[row][i] = 0;
            }
        }

        int put(int row, int i, int v) {
            int cut = v;
            if (lanes[row] == BYTES) {
                cut = (byte) v;
            } else if (lanes[row] == SHORTS) {
                cut = (short) v;
            }
            items[row][i] = cut;
            return cut;
        }

        int lose(int row) {
            int had = sizes[row];
            sizes[row] = MISSING;
            return had;
        }

        int present() {
            int many = 0;
            for (int row = 0; row < ROWS; row++) {
                if (sizes[row] != MISSING) {
                    many++;
                }
            }
            return many;
        }
    }

    /** THE TAPE, and how a WALL is read from it; at a FAULT reading stops, and at is its place. */
    private static final class Tape {
        static final int BYTES_MOST = 120;
        private static final int MISPLACED = 1, NOT_AS_TOLD = 2, NO_ROOM = 3;
        private static final int FIGURES_MOST = 2, FAULTY = -1;

        final int[] bytes;
        int length;
        int at;
        int latestFault;

        Tape() {
            bytes = new int[BYTES_MOST];
        }

        int add(int letter) {
            if (length < BYTES_MOST) {
                bytes[length] = letter;
                length++;
            }
            return length;
        }

        boolean readWall(Band told) {
            at = 0;
            told.clear();
            return readLaw(told) && readPulls(told) && readAnts(told);
        }

        private boolean readLaw(Band told) {
            if (!pass('w')) {
                return false;
            }
            told.length = readNumber(1, 99);
            return told.length != FAULTY && pass(';');
        }

        private boolean readPulls(Band told) {
            for (int turn = 0; turn <= Band.PULLS_MOST; turn++) {
                if (turn > 0 && nextByte() != 'g') {
                    return true;
                }
                if (turn == Band.PULLS_MOST) {
                    return fail(NO_ROOM);
                }
                if (!readPull(told)) {
                    return false;
                }
            }
            return true;
        }

        private boolean readPull(Band told) {
            if (!pass('g')) {
                return false;
            }
            int inches = readNumber(0, INCHES_MOST);
            if (inches == FAULTY || !pass(';')) {
                return false;
            }
            told.addPull(inches);
            return true;
        }

        private boolean readAnts(Band told) {
            for (int turn = 0; turn <= Band.ANTS_MOST; turn++) {
                if (turn > 0 && at >= length) {
                    return true;
                }
                int kind = kindOf(nextByte());
                if (kind == FAULTY) {
                    return fail(MISPLACED);
                }
                if (turn == Band.ANTS_MOST) {
                    return fail(NO_ROOM);
                }
                at++;
                if (!readAnt(told, kind)) {
                    return false;
                }
            }
            return true;
        }

        private boolean readAnt(Band told, int kind) {
            int step = readNumber(1, STEP_MOST);
            if (step == FAULTY || !pass(',')) {
                return false;
            }
            int from = readNumber(0, HUNDREDTH_MOST);
            if (from == FAULTY || !pass(',')) {
                return false;
            }
            int rest = readNumber(1, Ant.REST_MOST);
            if (rest == FAULTY || !pass(';')) {
                return false;
            }
            told.addAnt(kind, step, from, rest);
            return true;
        }

        private int kindOf(int letter) {
            switch (letter) {
                case 'p':
                    return Ant.PLAIN;
                case 't':
                    return Ant.TIRED;
                case 'q':
                    return Ant.QUICK;
                case 'b':
                    return Ant.BACK;
                case 'u':
                    return Ant.TURNER;
                default:
                    return FAULTY;
            }
        }

        private int nextByte() {
            return at >= 0 && at < length ? bytes[at] : FAULTY;
        }

        private boolean pass(int letter) {
            if (nextByte() != letter) {
                return fail(MISPLACED);
            }
            at++;
            return true;
        }

        private int readNumber(int least, int most) {
            int value = 0;
            int end = at;
            while (end < length && bytes[end] >= '0' && bytes[end] <= '9') {
                if (end - at < FIGURES_MOST) {
                    value = value * 10 + bytes[end] - '0';
                }
                end++;
            }
            if (end == at || end - at > FIGURES_MOST) {
                fail(MISPLACED);
                return FAULTY;
            }
            if (value < least || value > most) {
                fail(NOT_AS_TOLD);
                return FAULTY;
            }
            at = end;
            return value;
        }

        private boolean fail(int number) {
            latestFault = number;
            return false;
        }
    }

    /** One ANT: what was told of it, and where it is. */
    private static final class Ant {
        static final int PLAIN = 1, TIRED = 2, QUICK = 3, BACK = 4, TURNER = 5, KIND_LAST = 5;
        static final int WHOLE = 1000000, HALF = 500000, TENTH = 100000, HUNDREDTH = 10000;
        static final int REST_MOST = 9;
        private static final int TURN_AFTER = 10;
        private static final int[] PARENTS = {-1, 0, 1, 1, 0, 4};

        int kind;
        int step;
        int from;
        int rest;
        int part;
        boolean arrived;

        void tell(int kind, int step, int from, int rest) {
            this.kind = kind;
            this.step = step;
            this.from = from;
            this.rest = rest;
            part = from * HUNDREDTH;
            arrived = false;
        }

        void takeFrom(Ant other) {
            kind = other.kind;
            step = other.step;
            from = other.from;
            rest = other.rest;
            part = other.part;
            arrived = other.arrived;
        }

        int hundredth() {
            return part / HUNDREDTH;
        }

        boolean isOf(int asked) {
            int one = kind;
            for (int up = 0; up <= KIND_LAST && one >= 0 && one <= KIND_LAST; up++) {
                if (one == asked) {
                    return true;
                }
                one = PARENTS[one];
            }
            return false;
        }

        boolean goesToNail(int minute) {
            return kind == BACK || (kind == TURNER && minute < TURN_AFTER * rest);
        }

        int gait(int minute) {
            if (goesToNail(minute)) {
                return -step;
            }
            if (kind == TIRED && rest > 0 && minute % rest == 0) {
                return 0;
            }
            return kind == QUICK ? step + part / TENTH : step;
        }

        void go(int minute, int length) {
            if (arrived || length < 1) {
                return;
            }
            part += gait(minute) * WHOLE / length;
            if (part <= 0 && goesToNail(minute)) {
                part = 0;
                arrived = true;
            } else if (part >= WHOLE && !goesToNail(minute)) {
                part = WHOLE;
                arrived = true;
            }
        }
    }

    /** A WALL: the band, the PULLS, the ANTS. Without one all counts, MINUTE and LENGTH are 0. */
    private static final class Band {
        static final int PULLS_MOST = 5, ANTS_MOST = 6, NOBODY = -1;
        private static final int LENGTH_MOST = 9999;

        int length;
        int minute;
        int pullCount;
        int antCount;
        final int[] inches;
        final Ant[] ants;

        Band() {
            inches = new int[PULLS_MOST];
            ants = new Ant[ANTS_MOST];
            for (int ant = 0; ant < ANTS_MOST; ant++) {
                ants[ant] = new Ant();
            }
        }

        void clear() {
            length = 0;
            minute = 0;
            pullCount = 0;
            antCount = 0;
        }

        void addPull(int more) {
            if (pullCount < PULLS_MOST) {
                inches[pullCount] = more;
                pullCount++;
            }
        }

        void addAnt(int kind, int step, int from, int rest) {
            if (antCount < ANTS_MOST) {
                ants[antCount].tell(kind, step, from, rest);
                antCount++;
            }
        }

        void takeFrom(Band other) {
            length = other.length;
            minute = other.minute;
            pullCount = other.pullCount;
            antCount = other.antCount;
            for (int pull = 0; pull < PULLS_MOST; pull++) {
                inches[pull] = other.inches[pull];
            }
            for (int ant = 0; ant < ANTS_MOST; ant++) {
                ants[ant].takeFrom(other.ants[ant]);
            }
        }

        boolean hasAnt(int ant) {
            return ant >= 0 && ant < antCount;
        }

        void passMinute(int stopped) {
            for (int ant = 0; ant < antCount; ant++) {
                if (ant != stopped) {
                    ants[ant].go(minute, length);
                }
            }
            stretchInTurn();
        }

        /** LENGTH does not hang on the ANTS, so one can be followed without the others. */
        void passMinuteOf(int ant) {
            ants[ant].go(minute, length);
            stretchInTurn();
        }

        void stretchInTurn() {
            stretch(pullCount > 0 ? inches[minute % pullCount] : 0);
        }

        void stretch(int more) {
            length = Math.min(LENGTH_MOST, length + more);
            minute++;
        }

        void slacken() {
            length = Math.max(1, length / 2);
        }

        int arrivedBits() {
            int bits = 0;
            for (int ant = 0; ant < antCount; ant++) {
                if (ants[ant].arrived) {
                    bits |= 1 << ant;
                }
            }
            return bits;
        }

        int firstAhead() {
            int first = 0;
            for (int ant = 1; ant < antCount; ant++) {
                if (ants[ant].part > ants[first].part) {
                    first = ant;
                }
            }
            return first;
        }
    }

    /** The ACTS that can be undone, each as the WALL ahead of it, in a ring that forgets the oldest. */
    private static final class Acts {
        private static final int ACTS_MOST = 24;

        final Band[] before;
        int oldest;
        int kept;

        Acts() {
            before = new Band[ACTS_MOST];
            for (int act = 0; act < ACTS_MOST; act++) {
                before[act] = new Band();
            }
        }

        void keep(Band now) {
            if (kept == ACTS_MOST) {
                oldest = (oldest + 1) % ACTS_MOST;
                kept--;
            }
            before[(oldest + kept) % ACTS_MOST].takeFrom(now);
            kept++;
        }

        int takeBack(Band now) {
            if (kept > 0) {
                kept--;
                now.takeFrom(before[(oldest + kept) % ACTS_MOST]);
            }
            return kept;
        }

        void forget() {
            kept = 0;
        }
    }

    /** What is FORETOLD, tried out on a band of its own so that the WALL stays as it is. */
    private static final class Foretold {
        static final int CASES = 10;
        private static final int LOOK_MOST = 200, ORDERS_MOST = 120;
        private static final long FACTOR = 16807, MODULUS = 2147483647;

        final Band then;
        final int[] trial;
        final int[] best;
        final int[] marks;
        int markCount;
        long above;
        long below;

        Foretold() {
            then = new Band();
            trial = new int[Band.PULLS_MOST];
            best = new int[Band.PULLS_MOST];
            marks = new int[ROW_MINUTES_MOST];
        }

        void lookAhead(Band now, int n) {
            then.takeFrom(now);
            for (int m = 0; m < n; m++) {
                then.passMinute(Band.NOBODY);
            }
        }

        int partBehind(Band now, int ant, int n) {
            then.takeFrom(now);
            return partOnward(ant, n);
        }

        private int partOnward(int ant, int n) {
            for (int m = 0; m < n; m++) {
                then.passMinuteOf(ant);
            }
            return then.ants[ant].part;
        }

        int arrival(Band now, int ant) {
            then.takeFrom(now);
            return arrivalOnward(ant, LOOK_MOST);
        }

        private int arrivalOnward(int ant, int most) {
            for (int m = 0; m < most; m++) {
                if (then.ants[ant].arrived) {
                    return m;
                }
                then.passMinuteOf(ant);
            }
            return then.ants[ant].arrived ? most : NONE;
        }

        int meeting(Band now, int ant, int other) {
            then.takeFrom(now);
            int side = Integer.compare(then.ants[ant].part, then.ants[other].part);
            for (int m = 0; m <= LOOK_MOST; m++) {
                int sideThen = Integer.compare(then.ants[ant].part, then.ants[other].part);
                if (sideThen == 0 || sideThen != side) {
                    return m;
                }
                then.ants[other].go(then.minute, then.length);
                then.passMinuteOf(ant);
            }
            return NONE;
        }

        int halfCrossed(Band now, int ant) {
            then.takeFrom(now);
            int side = Integer.compare(then.ants[ant].part, Ant.HALF);
            for (int m = 0; m <= LOOK_MOST; m++) {
                int sideThen = Integer.compare(then.ants[ant].part, Ant.HALF);
                if (sideThen == 0 || sideThen != side) {
                    return m;
                }
                then.passMinuteOf(ant);
            }
            return NONE;
        }

        int leastStep(Band now, int ant, int n) {
            for (int step = 1; step <= STEP_MOST; step++) {
                then.takeFrom(now);
                then.ants[ant].step = step;
                if (arrivalOnward(ant, n) != NONE) {
                    return step;
                }
            }
            return NONE;
        }

        int greatestPull(Band now, int ant, int n) {
            for (int more = INCHES_MOST; more >= 0; more--) {
                then.takeFrom(now);
                for (int pull = 0; pull < then.pullCount; pull++) {
                    then.inches[pull] = more;
                }
                if (arrivalOnward(ant, n) != NONE) {
                    return more;
                }
            }
            return NONE;
        }

        int bestRest(Band now, int ant, int n) {
            int bestOne = 1;
            int greatest = -1;
            for (int rest = 1; rest <= Ant.REST_MOST; rest++) {
                then.takeFrom(now);
                then.ants[ant].rest = rest;
                int part = partOnward(ant, n);
                if (part > greatest) {
                    greatest = part;
                    bestOne = rest;
                }
            }
            return bestOne;
        }

        /** Orders come by numbers, so the first of several alike is the first that is met. */
        int bestOrder(Band now, int ant, boolean late) {
            int count = now.pullCount;
            for (int k = 0; k < count; k++) {
                trial[k] = k;
                best[k] = k;
            }
            int bestBehind = arrivalInOrder(now, ant, LOOK_MOST);
            for (int tried = 1; tried < ORDERS_MOST && nextOrder(count); tried++) {
                if (late && bestBehind > LOOK_MOST) {
                    break;
                }
                int behind = arrivalInOrder(now, ant, late ? LOOK_MOST : bestBehind - 1);
                if (late ? behind > bestBehind : behind < bestBehind) {
                    bestBehind = behind;
                    System.arraycopy(trial, 0, best, 0, count);
                }
            }
            return bestBehind > LOOK_MOST ? NONE : bestBehind;
        }

        /** Not within the MINUTES looked at: one more than the most, for that is latest. */
        private int arrivalInOrder(Band now, int ant, int most) {
            then.takeFrom(now);
            int count = then.pullCount;
            int turn = 0;
            for (int m = 1; m <= most; m++) {
                then.ants[ant].go(then.minute, then.length);
                if (then.ants[ant].arrived) {
                    return m;
                }
                then.stretch(turn < count ? then.inches[trial[turn]] : 0);
                turn = turn + 1 < count ? turn + 1 : 0;
            }
            return LOOK_MOST + 1;
        }

        /** The trial becomes the order that comes next by numbers; false behind the last. */
        private boolean nextOrder(int count) {
            int low = count - 2;
            while (low >= 0 && trial[low] > trial[low + 1]) {
                low--;
            }
            if (low < 0) {
                return false;
            }
            int high = count - 1;
            while (high > low && trial[high] < trial[low]) {
                high--;
            }
            swap(low, high);
            int left = low + 1;
            for (int right = count - 1; right > left; right--) {
                swap(left, right);
                left++;
            }
            return true;
        }

        private void swap(int one, int other) {
            int kept = trial[one];
            trial[one] = trial[other];
            trial[other] = kept;
        }

        int passing(Band now, int ant, int n) {
            then.takeFrom(now);
            int notAhead = ~aheadOf(ant);
            int passing = 0;
            for (int m = 0; m < n; m++) {
                then.passMinute(Band.NOBODY);
                passing |= aheadOf(ant) & notAhead;
            }
            return passing;
        }

        private int aheadOf(int ant) {
            int bits = 0;
            for (int other = 0; other < then.antCount; other++) {
                if (then.ants[other].part > then.ants[ant].part) {
                    bits |= 1 << other;
                }
            }
            return bits;
        }

        void readMarks(int[] items, int from, int n) {
            markCount = n;
            System.arraycopy(items, from, marks, 0, n);
        }

        int fitting(Band now, int ant, int which) {
            int most = which == 0 ? Ant.KIND_LAST : which == 1 ? STEP_MOST : Ant.REST_MOST;
            int bits = 0;
            for (int value = 1; value <= most; value++) {
                then.takeFrom(now);
                Ant one = then.ants[ant];
                if (which == 0) {
                    one.kind = value;
                } else if (which == 1) {
                    one.step = value;
                } else {
                    one.rest = value;
                }
                if (fitsMarks(ant)) {
                    bits |= 1 << value;
                }
            }
            return bits;
        }

        int fittingAnts(Band now) {
            int bits = 0;
            for (int ant = 0; ant < now.antCount; ant++) {
                then.takeFrom(now);
                if (fitsMarks(ant)) {
                    bits |= 1 << ant;
                }
            }
            return bits;
        }

        private boolean fitsMarks(int ant) {
            for (int m = 0; m < markCount; m++) {
                then.passMinuteOf(ant);
                if (then.ants[ant].hundredth() != marks[m]) {
                    return false;
                }
            }
            return true;
        }

        void blow(Band now, int ant, int n, int p) {
            above = 0;
            below = 1;
            for (int m = 0; m < n; m++) {
                below *= CASES;
            }
            for (int stops = 0; stops < 1 << n; stops++) {
                if (arrivesBlown(now, ant, n, stops)) {
                    above += casesOf(n, p, stops);
                }
            }
            long common = commonDivisor(below, above);
            if (common > 1) {
                above /= common;
                below /= common;
            }
        }

        private boolean arrivesBlown(Band now, int ant, int n, int stops) {
            then.takeFrom(now);
            for (int m = 0; m < n; m++) {
                if ((stops >> m & 1) == 0) {
                    then.ants[ant].go(then.minute, then.length);
                }
                then.stretchInTurn();
            }
            return then.ants[ant].arrived;
        }

        private long casesOf(int n, int p, int stops) {
            long cases = 1;
            for (int m = 0; m < n; m++) {
                cases *= (stops >> m & 1) == 0 ? CASES - p : p;
            }
            return cases;
        }

        private long commonDivisor(long one, long other) {
            long greater = one;
            long less = other;
            for (int turn = 0; turn < 100 && less != 0; turn++) {
                long left = greater % less;
                greater = less;
                less = left;
            }
            return greater;
        }

        void walkByDraws(Band now, int n, int seed) {
            then.takeFrom(now);
            long x = seed;
            for (int m = 0; m < n; m++) {
                x = x * FACTOR % MODULUS;
                if (x % 4 == 0) {
                    then.slacken();
                }
                then.passMinute(then.antCount > 0 ? (int) (x % then.antCount) : Band.NOBODY);
            }
        }
    }

    /** ASKS and THE TRACE. A BODY is known by its number; which one begins hangs on the KIND. */
    private static final class Asks {
        private static final int TRACE_MOST = 16, DEEPEST = 12;
        private static final int[] SIZE_BODIES = {10, 11, 12, 11, 13, 14};
        private static final int[] MARK_BODIES = {20, 21, 24, 22, 23, 23};

        final int[] trace;
        int traceLength;
        private int number;
        private int stepOfOne;
        private int hundredthOfOne;
        private int sizeBody;
        private int markBody;

        Asks() {
            trace = new int[TRACE_MOST];
        }

        int answer(Ant one, int number, boolean size) {
            this.number = number;
            stepOfOne = one.step;
            hundredthOfOne = one.hundredth();
            sizeBody = one.kind >= 0 && one.kind <= Ant.KIND_LAST ? SIZE_BODIES[one.kind] : 10;
            markBody = one.kind >= 0 && one.kind <= Ant.KIND_LAST ? MARK_BODIES[one.kind] : 20;
            traceLength = 0;
            return begin(size ? sizeBody : markBody, 1);
        }

        private int begin(int body, int depth) {
            if (depth > DEEPEST) {
                return 0;
            }
            leave(body);
            switch (body) {
                case 10:
                    return stepOfOne;
                case 11:
                    return begin(10, depth + 1) + begin(markBody, depth + 1);
                case 12:
                    return -begin(11, depth + 1);
                case 13:
                    return begin(10, depth + 1) - 100;
                case 14:
                    return begin(13, depth + 1) * 2;
                case 20:
                    return number;
                case 21:
                    return begin(20, depth + 1) + hundredthOfOne;
                case 22:
                    return begin(21, depth + 1) - 1000;
                case 23:
                    return begin(20, depth + 1) - begin(sizeBody, depth + 1);
                case 24:
                    return begin(21, depth + 1) * 2;
                default:
                    return 0;
            }
        }

        private void leave(int body) {
            if (traceLength < TRACE_MOST) {
                trace[traceLength] = body;
                traceLength++;
            }
        }
    }
}
