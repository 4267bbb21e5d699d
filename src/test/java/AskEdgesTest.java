/** '======== 4' and promises 35 to 39: which BODY begins, THE TRACE's ends, KINDS, and each count at its greatest. */
public final class AskEdgesTest {
    private static final String SIX = "w50;g0;q20,99,1;p1,0,1;t20,99,9;b20,1,1;u1,0,9;t1,0,1;";
    private static final int QUICK = 0, PLAIN = 1, TIRED = 2, BACK = 3, TURNER = 4, LAST = 5;

    public static void main(String[] args) {
        bodiesOfTheirOwn();
        noBodyOfItsOwn();
        traceHasFirstSixteen();
        traceIsEmptyAhead();
        traceStays();
        whereItIs();
        kinds();
        takenAs();
        countsAtTheirGreatest();
        countsOfNothing();
        Check.end("AskEdgesTest");
    }

    private static void askDue(AntBand x, int one, int what, int answer, int... bodies) {
        String call = "ask(" + one + ", " + what + ")";
        Check.due("37: " + call, x.ask(one, what), answer);
        for (int i = 0; i <= 16; i++) {
            Check.due("38: trace(" + i + ") of " + call, x.trace(i), i < bodies.length ? bodies[i] : Check.NONE);
        }
    }

    private static void bodiesOfTheirOwn() {
        AntBand x = Check.told(SIX);
        askDue(x, PLAIN, 0, 1 + (1 + 0), 11, 10, 21, 20);
        askDue(x, TIRED, 0, -(20 + 2 * (2 + 99)), 12, 11, 10, 24, 21, 20);
        askDue(x, LAST, 0, -(1 + 2 * (5 + 0)), 12, 11, 10, 24, 21, 20);
        askDue(x, BACK, 0, 20 - 100, 13, 10);
        askDue(x, TURNER, 0, 2 * (1 - 100), 14, 13, 10);
        askDue(x, PLAIN, 1, 1 + 0, 21, 20);
        askDue(x, TIRED, 1, 2 * (2 + 99), 24, 21, 20);
        askDue(x, QUICK, 1, 0 + 99 - 1000, 22, 21, 20);
        askDue(x, BACK, 1, 3 - (20 - 100), 23, 20, 13, 10);
    }

    /** SIZE of a quick one is that of a plain one, MARK of a turner is that of one that goes back. */
    private static void noBodyOfItsOwn() {
        AntBand x = Check.told(SIX);
        askDue(x, QUICK, 0, 20 + (0 + 99 - 1000), 11, 10, 22, 21, 20);
        askDue(x, TURNER, 1, 4 - 2 * (1 - 100), 23, 20, 14, 13, 10);
    }

    private static void traceHasFirstSixteen() {
        AntBand x = Check.told(SIX);
        x.ask(TIRED, 0);
        Check.due("38: -1", x.trace(-1), Check.NONE);
        Check.due("38: least", x.trace(Integer.MIN_VALUE), Check.NONE);
        Check.due("38: 0", x.trace(0), 12);
        Check.due("38: the last that was left", x.trace(5), 20);
        Check.due("38: none behind it", x.trace(6), Check.NONE);
        Check.due("38: 15", x.trace(15), Check.NONE);
        Check.due("38: 16", x.trace(16), Check.NONE);
        Check.due("38: greatest", x.trace(Integer.MAX_VALUE), Check.NONE);
    }

    private static void traceIsEmptyAhead() {
        AntBand x = Check.told(SIX);
        for (int i = -1; i <= 16; i++) {
            Check.due("38: empty at first", x.trace(i), Check.NONE);
        }
        askDue(x, TIRED, 0, -222, 12, 11, 10, 24, 21, 20);
        askDue(x, BACK, 0, -80, 13, 10);
        askDue(x, BACK, 0, -80, 13, 10);
        for (int ask = 0; ask < 5; ask++) {
            x.ask(TIRED, 0);
        }
        Check.due("38: asks do not add up", x.trace(6), Check.NONE);
    }

    private static void traceStays() {
        AntBand x = Check.told(SIX);
        x.ask(BACK, 0);
        x.ask(BACK, 2);
        x.ask(6, 0);
        x.minutes(1);
        x.undo();
        x.image(0);
        x.restore(0);
        Check.read(x, "w1;g1;p1,0,1;");
        x.row(0, 0, 1);
        x.as(0, 5);
        Check.due("38: nothing but ask() changes it", x.trace(0) * 100 + x.trace(1), 1310);
        Check.due("38: nothing but ask() changes it", x.trace(2), Check.NONE);
    }

    private static void whereItIs() {
        AntBand x = Check.told(SIX);
        x.minutes(1);
        askDue(x, QUICK, 1, 0 + 100 - 1000, 22, 21, 20);
        Check.due("15: ARRIVED at the nail", x.ant(BACK, 3), 1);
        askDue(x, BACK, 1, 3 + 80, 23, 20, 13, 10);
        AntBand slow = Check.told("w99;g0;p1,0,1;");
        for (int m = 0; m < 99; m++) {
            slow.minutes(1);
        }
        askDue(slow, 0, 1, 0 + 99, 21, 20);
        slow.step(0, 20);
        askDue(slow, 0, 0, 20 + 99, 11, 10, 21, 20);
        Check.due("37: what 2", slow.ask(0, 2), Check.BAD);
        Check.due("37: what -1", slow.ask(0, -1), Check.BAD);
        Check.due("37: ANT 1", slow.ask(1, 0), Check.BAD);
        Check.due("37: ANT -1", slow.ask(-1, 0), Check.BAD);
    }

    private static void kinds() {
        AntBand x = Check.told(SIX);
        int[] due = {3, 1, 2, 4, 5, 2};
        for (int one = -1; one <= 6; one++) {
            Check.due("35: kind(" + one + ")", x.kind(one), one < 0 || one > 5 ? Check.BAD : due[one]);
        }
    }

    private static void takenAs() {
        AntBand x = Check.told(SIX);
        int[] kinds = {3, 1, 2, 4, 5, 2};
        // bits of all KINDS that one of a KIND is
        int[] is = {0, 1 | 2, 1 | 2 | 4, 1 | 2 | 8, 1 | 16, 1 | 16 | 32};
        for (int one = 0; one < 6; one++) {
            for (int kind = -1; kind <= 6; kind++) {
                boolean told = kind >= 0 && kind <= 5;
                int due = !told ? Check.BAD : (is[kinds[one]] >> kind & 1) == 1 ? one : Check.KIND;
                Check.due("36: as(" + one + ", " + kind + ")", x.as(one, kind), due);
            }
        }
        Check.due("36: as(6, 0)", x.as(6, 0), Check.BAD);
        Check.due("36: as(-1, 0)", x.as(-1, 0), Check.BAD);
    }

    private static void countsAtTheirGreatest() {
        AntBand x = Check.told("w99;g99;g99;g99;g99;g99;p20,99,1;p20,99,1;p20,99,1;b20,0,1;b20,0,1;u20,0,1;");
        for (int row = 0; row <= 7; row++) {
            x.row(row, 0, 0);
        }
        for (int turn = 0; turn < 41; turn++) {
            x.minutes(24);
        }
        x.minutes(15);
        for (int i = 0; i < 120; i++) {
            x.feed('a');
        }
        int[] due = {8, 5, 6, 999, 9999, 63, 24, 120};
        for (int what = -1; what <= 8; what++) {
            boolean told = what >= 0 && what <= 7;
            Check.due("39: count(" + what + ")", x.count(what), told ? due[what] : Check.BAD);
        }
    }

    private static void countsOfNothing() {
        AntBand x = new AntBand();
        for (int what = -1; what <= 8; what++) {
            Check.due("1: count(" + what + ")", x.count(what), what >= 0 && what <= 7 ? 0 : Check.BAD);
        }
        Check.due("1: status", x.status(), 0);
        Check.due("1: fault", x.fault(), 0);
        Check.due("1: pulls(0)", x.pulls(0), Check.NONE);
        Check.due("1: no WALL", x.minutes(1), Check.STATE);
    }
}
