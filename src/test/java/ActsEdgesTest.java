/** '======== 2', ACTS, and promises 9 to 14: 24 at most, the oldest forgotten; the ends of what is taken. */
public final class ActsEdgesTest {
    private static final String FOUR = "w80;g10;g3;p2,0,1;t3,20,2;q1,15,3;b2,99,1;";

    public static void main(String[] args) {
        eachActIsUndone();
        twentyFourAreKept();
        theOldestOfEachSort();
        minutesAtTheirEnds();
        upToMinute999();
        pullsAtTheirEnds();
        placesAtTheirEnds();
        stepsAtTheirEnds();
        whatIsAsked();
        imagesForgetActs();
        Check.end("ActsEdgesTest");
    }

    private static int act(AntBand x, int sort, int turn) {
        switch (sort) {
            case 0:
                return x.minutes(1);
            case 1:
                return x.pull(turn % 2, turn * 7 % 100);
            case 2:
                return x.letGo();
            case 3:
                return x.place(turn % 4, turn * 13 % 100);
            default:
                return x.step(turn % 4, turn * 3 % 20 + 1);
        }
    }

    /** What an ACT can change, told by few calls. */
    private static String state(AntBand x) {
        StringBuilder all = new StringBuilder().append(x.count(3)).append(' ').append(x.count(4)).append(' ');
        all.append(x.pulls(0)).append(' ').append(x.pulls(1));
        for (int ant = 0; ant < 4; ant++) {
            all.append(' ').append(x.ant(ant, 0)).append(' ').append(x.ant(ant, 2)).append(' ').append(x.ant(ant, 3));
        }
        return all.toString();
    }

    private static void same(String name, String got, String want) {
        if (!got.equals(want)) {
            System.out.println(name + " is " + got + ", due is " + want);
        }
        Check.due(name, got.equals(want) ? 1 : 0, 1);
    }

    private static void eachActIsUndone() {
        for (int sort = 0; sort < 5; sort++) {
            AntBand x = Check.told(FOUR);
            String before = state(x);
            act(x, sort, 3);
            Check.due("39: ACT of sort " + sort + " can be undone", x.count(6), 1);
            Check.due("10 to 14: it changed something", before.equals(state(x)) ? 1 : 0, 0);
            Check.due("9: undo", x.undo(), 0);
            same("9: as ahead of ACT " + sort, state(x), before);
            Check.due("9: none any more", x.undo(), Check.STATE);
            same("9: what is refused changes nothing", state(x), before);
        }
    }

    private static void twentyFourAreKept() {
        for (int many = 23; many <= 26; many++) {
            AntBand x = Check.told("w1;g1;t1,0,1;");
            for (int k = 1; k <= many; k++) {
                x.minutes(1);
                Check.due("39: ACTS behind " + k, x.count(6), Math.min(24, k));
            }
            int kept = Math.min(24, many);
            for (int left = kept - 1; left >= 0; left--) {
                Check.due("9: undo", x.undo(), left);
                Check.due("9: MINUTE", x.count(3), many - kept + left);
                Check.due("9: LENGTH", x.count(4), many - kept + left + 1);
            }
            Check.due("9: the oldest is forgotten", x.undo(), Check.STATE);
            Check.due("9: MINUTE stays", x.count(3), many - kept);
        }
        AntBand x = Check.told("w1;g1;t1,0,1;");
        x.minutes(24);
        Check.due("10: 24 at once, an ACT each", x.count(6), 24);
        x.letGo();
        Check.due("39: 24 yet", x.count(6), 24);
        x.minutes(24);
        Check.due("9: the 24 latest", x.undo(), 23);
        for (int left = 22; left >= 0; left--) {
            Check.due("9: undo", x.undo(), left);
        }
        Check.due("9: the first MINUTE of the latest 24 is undone", x.count(3), 24);
        Check.due("9: what came ahead of them is not", x.count(4), 12);
        Check.due("9: none", x.undo(), Check.STATE);
    }

    /** Thirty ACTS of all sorts, the k-th sort first: back to behind the sixth, ACT by ACT. */
    private static void theOldestOfEachSort() {
        for (int first = 0; first < 5; first++) {
            AntBand x = Check.told(FOUR);
            String[] behind = new String[30];
            for (int k = 0; k < 30; k++) {
                if (act(x, (first + k) % 5, k) <= Check.BAD) {
                    act(x, 2, k);
                }
                // told by a twin, for asking is calls, too
                behind[k] = state(behindActs(first, k + 1));
            }
            Check.due("39: ACTS", x.count(6), 24);
            for (int k = 28; k >= 5; k--) {
                x.undo();
                if (k % 4 == 1) {
                    same("9: behind ACT " + k + ", first " + first, state(x), behind[k]);
                }
            }
            same("9: behind the sixth", state(x), behind[5]);
            Check.due("9: none older", x.undo(), Check.STATE);
        }
    }

    private static AntBand behindActs(int first, int many) {
        AntBand x = Check.told(FOUR);
        for (int k = 0; k < many; k++) {
            if (act(x, (first + k) % 5, k) <= Check.BAD) {
                act(x, 2, k);
            }
        }
        return x;
    }

    private static void minutesAtTheirEnds() {
        for (int n = -1; n <= 26; n++) {
            AntBand x = Check.told("w5;g1;t1,0,1;");
            boolean good = n >= 1 && n <= 24;
            Check.due("10: minutes(" + n + ")", x.minutes(n), good ? 5 + n : Check.BAD);
            Check.due("39: MINUTE", x.count(3), good ? n : 0);
            Check.due("39: ACTS", x.count(6), good ? n : 0);
        }
    }

    private static void upToMinute999() {
        for (int ahead : new int[] {974, 975, 976, 997, 998, 999}) {
            for (int n : new int[] {1, 2, 23, 24}) {
                AntBand x = atMinute(ahead);
                boolean good = ahead + n <= 999;
                String name = "10: minutes(" + n + ") at " + ahead;
                Check.due(name, x.minutes(n), good ? 1 : Check.FULL);
                Check.due(name + ", MINUTE", x.count(3), good ? ahead + n : ahead);
            }
        }
        AntBand x = atMinute(999);
        Check.due("12: other ACTS are not FULL", x.letGo(), 1);
        Check.due("11: other ACTS are not FULL", x.pull(0, 5), 0);
        Check.due("14: other ACTS are not FULL", x.step(0, 2), 1);
        Check.due("13: other ACTS are not FULL", x.place(0, 2), 0);
        Check.due("10: FULL yet", x.minutes(1), Check.FULL);
        for (int k = 0; k < 5; k++) {
            x.undo();
        }
        Check.due("9: a MINUTE less", x.count(3), 998);
        Check.due("10: room for one", x.minutes(2), Check.FULL);
        Check.due("10: room for one", x.minutes(1), 1);
        Check.due("17: foretold goes on beyond 999", x.band(99, 0), 1);
        x.pull(0, 3);
        Check.due("18: foretold goes on beyond 999", x.band(99, 0), 1 + 99 * 3);
        Check.due("7: a WALL is read: MINUTE 0", Check.read(x, "w1;g0;t1,0,1;"), 1);
        Check.due("10: room again", x.minutes(24), 1);
    }

    private static AntBand atMinute(int minute) {
        AntBand x = Check.told("w1;g0;t1,0,1;");
        int left = minute;
        while (left > 0) {
            int n = Math.min(24, left);
            x.minutes(n);
            left -= n;
        }
        Check.due("39: MINUTE", x.count(3), minute);
        return x;
    }

    private static void pullsAtTheirEnds() {
        AntBand x = Check.told("w1;g5;g6;g7;g8;g9;p1,0,1;");
        for (int pull = -1; pull <= 5; pull++) {
            boolean good = pull >= 0 && pull < 5;
            Check.due("11: pull(" + pull + ", 0)", x.pull(pull, 0), good ? 5 + pull : Check.BAD);
            Check.due("11: pull(" + pull + ", 99)", x.pull(pull, 99), good ? 0 : Check.BAD);
            Check.due("11: pull(" + pull + ", 100)", x.pull(pull, 100), Check.BAD);
            Check.due("11: pull(" + pull + ", -1)", x.pull(pull, -1), Check.BAD);
            Check.due("16: pulls(" + pull + ")", x.pulls(pull), good ? 99 : pull < 0 ? Check.BAD : Check.NONE);
        }
        Check.due("39: an ACT each", x.count(6), 10);
        Check.due("11: the same again", x.pull(4, 99), 99);
        Check.due("39: an ACT too", x.count(6), 11);
        for (int inches = 0; inches <= 99; inches++) {
            x.pull(2, inches);
            Check.due("16: INCHES", x.pulls(2), inches);
        }
        Check.due("11: LENGTH stays", x.count(4), 1);
        Check.due("16: greatest", x.pulls(Integer.MAX_VALUE), Check.NONE);
        Check.due("16: least", x.pulls(Integer.MIN_VALUE), Check.BAD);
    }

    private static void placesAtTheirEnds() {
        AntBand x = Check.told("w99;g0;p1,0,1;p1,0,1;p1,0,1;p1,0,1;p1,0,1;u1,44,1;");
        int was = 44;
        for (int at = 0; at <= 99; at++) {
            Check.due("13: place(5, " + at + ")", x.place(5, at), was);
            Check.due("15: PART", x.ant(5, 2), at * 10000);
            Check.due("15: it did not ARRIVE", x.ant(5, 3), 0);
            was = at;
        }
        Check.due("13: place(5, 100)", x.place(5, 100), Check.BAD);
        Check.due("13: place(5, -1)", x.place(5, -1), Check.BAD);
        Check.due("13: place(6, 0)", x.place(6, 0), Check.BAD);
        Check.due("13: place(-1, 0)", x.place(-1, 0), Check.BAD);
        Check.due("13: FROM stays as told", x.ant(5, 5), 44);
        Check.due("13: the others stay", x.ant(0, 2) + x.ant(4, 2), 0);
        Check.due("39: ACTS", x.count(6), 24);
    }

    private static void stepsAtTheirEnds() {
        AntBand x = Check.told("w99;g0;p1,0,1;p1,0,1;p1,0,1;p1,0,1;p1,0,1;u7,44,1;");
        int was = 7;
        for (int step = 1; step <= 20; step++) {
            Check.due("14: step(5, " + step + ")", x.step(5, step), was);
            Check.due("15: STEP", x.ant(5, 0), step);
            Check.due("15: GAIT", x.ant(5, 4), 100 - step);
            was = step;
        }
        Check.due("14: step(5, 0)", x.step(5, 0), Check.BAD);
        Check.due("14: step(5, 21)", x.step(5, 21), Check.BAD);
        Check.due("14: step(6, 1)", x.step(6, 1), Check.BAD);
        Check.due("14: step(-1, 1)", x.step(-1, 1), Check.BAD);
        Check.due("14: the others stay", x.ant(0, 0) + x.ant(4, 0), 2);
        Check.due("39: ACTS", x.count(6), 20);
        Check.due("14: the same again is an ACT, too", x.step(5, 20) + x.count(6), 41);
    }

    private static void whatIsAsked() {
        AntBand x = Check.told("w99;g0;p1,0,1;p1,0,1;p1,0,1;p1,0,1;p1,0,1;u7,44,3;");
        int[] due = {7, 3, 440000, 0, 93, 44};
        for (int what = -1; what <= 6; what++) {
            boolean good = what >= 0 && what <= 5;
            Check.due("15: ant(5, " + what + ")", x.ant(5, what), good ? due[what] : Check.BAD);
            Check.due("15: ant(6, " + what + ")", x.ant(6, what), Check.BAD);
            Check.due("15: ant(-1, " + what + ")", x.ant(-1, what), Check.BAD);
        }
    }

    private static void imagesForgetActs() {
        for (int k = 0; k < 2; k++) {
            AntBand x = Check.told("w9;g1;t1,0,1;");
            x.minutes(3);
            Check.due("33: image(" + k + ")", x.image(k), 1);
            Check.due("33: ACTS stay", x.count(6), 3);
            Check.due("34: the other was not kept", x.restore(1 - k), Check.STATE);
            x.minutes(2);
            Check.due("34: restore(" + k + ")", x.restore(k), 1);
            Check.due("34: no ACT can be undone then", x.undo(), Check.STATE);
            Check.due("34: MINUTE", x.count(3), 3);
            Check.due("34: LENGTH", x.count(4), 12);
            x.minutes(24);
            Check.due("34: 24 can be kept again", x.count(6), 24);
            Check.due("34: restored twice", x.restore(k), 1);
            Check.due("34: MINUTE", x.count(3), 3);
            Check.read(x, "w5;g1;b1,9,1;");
            Check.due("34: behind another WALL", x.restore(k), 1);
            Check.due("34: its ANT", x.kind(0), 2);
            Check.due("33: kept anew", x.letGo() + x.image(k) + x.letGo() + x.restore(k), 6 + 1 + 3 + 1);
            Check.due("34: the newer one", x.count(4), 6);
        }
    }
}
