/** Promises 35 to 40: kind, as, ask, trace, count, status. */
public final class AskedTest {
    /** One of each KIND: numbers 0 to 4, STEPS 2, 3, 1, 2, 1. */
    private static final String FIVE = DoneTest.FIVE;
    private static final int[] ENOUGH = {16, 0x7FFFFFFF, -1, 0x80000000};

    public static void main(String[] args) {
        kinds();
        taken();
        asked();
        traced();
        counted();
        Check.end("AskedTest");
    }

    private static void kinds() {
        AntBand none = new AntBand();
        Check.due("35: no WALL", none.kind(0), Check.BAD);
        AntBand x = Check.told(FIVE);
        for (int one = 0; one < 5; one++) {
            Check.due("35: kind", x.kind(one), one + 1);
        }
        Check.due("35: ANT -1", x.kind(-1), Check.BAD);
        Check.due("35: ANT 5", x.kind(5), Check.BAD);
    }

    private static void taken() {
        AntBand none = new AntBand();
        Check.due("36: no WALL", none.as(0, 0), Check.BAD);
        AntBand x = Check.told(FIVE);
        boolean[][] is = {
            {true, true, false, false, false, false},
            {true, true, true, false, false, false},
            {true, true, false, true, false, false},
            {true, false, false, false, true, false},
            {true, false, false, false, true, true},
        };
        for (int one = 0; one < 5; one++) {
            for (int kind = 0; kind <= 5; kind++) {
                Check.due("36: as(" + one + ", " + kind + ")", x.as(one, kind), is[one][kind] ? one : Check.KIND);
                Check.due("40: status", x.status(), is[one][kind] ? 0 : 3);
            }
        }
        x.as(0, 2);
        Check.due("36: KIND -1", x.as(0, -1), Check.BAD);
        Check.due("36: KIND 6", x.as(0, 6), Check.BAD);
        Check.due("36: ANT -1", x.as(-1, 0), Check.BAD);
        Check.due("36: ANT 5", x.as(5, 0), Check.BAD);
        Check.due("40: BAD leaves it", x.status(), 3);
        x.kind(0);
        x.ask(0, 0);
        Check.read(x, FIVE);
        Check.due("40: other calls leave it", x.status(), 3);
        x.row(0, 0, 0);
        Check.due("40: none", x.status(), 0);
    }

    private static void askDue(AntBand x, int one, int what, int answer, int... bodies) {
        String call = "ask(" + one + ", " + what + ")";
        Check.due("37: " + call, x.ask(one, what), answer);
        for (int i = 0; i < bodies.length; i++) {
            Check.due("38: trace(" + i + ") of " + call, x.trace(i), bodies[i]);
        }
        Check.due("38: the end of " + call, x.trace(bodies.length), Check.NONE);
        for (int i : ENOUGH) {
            Check.due("38: trace(" + i + ")", x.trace(i), Check.NONE);
        }
    }

    private static void asked() {
        AntBand x = Check.told(FIVE);
        askDue(x, 0, 0, 2 + 0 + 0, 11, 10, 21, 20);
        askDue(x, 1, 0, -(3 + 2 * (1 + 20)), 12, 11, 10, 24, 21, 20);
        askDue(x, 2, 0, 1 + 2 + 45 - 1000, 11, 10, 22, 21, 20);
        askDue(x, 3, 0, 2 - 100, 13, 10);
        askDue(x, 4, 0, 2 * (1 - 100), 14, 13, 10);
        askDue(x, 0, 1, 0, 21, 20);
        askDue(x, 1, 1, 2 * (1 + 20), 24, 21, 20);
        askDue(x, 2, 1, 2 + 45 - 1000, 22, 21, 20);
        askDue(x, 3, 1, 3 - (2 - 100), 23, 20, 13, 10);
        askDue(x, 4, 1, 4 - 2 * (1 - 100), 23, 20, 14, 13, 10);
        x.minutes(4);
        askDue(x, 0, 0, 2 + 0 + 46, 11, 10, 21, 20);
        askDue(x, 2, 1, 2 + 100 - 1000, 22, 21, 20);
        x.step(1, 20);
        askDue(x, 1, 0, -(20 + 2 * (1 + 45)), 12, 11, 10, 24, 21, 20);
    }

    private static void traced() {
        AntBand none = new AntBand();
        Check.due("37: no WALL", none.ask(0, 0), Check.BAD);
        AntBand x = Check.told(FIVE);
        x.ask(4, 1);
        Check.due("37: what 2", x.ask(0, 2), Check.BAD);
        Check.due("37: what -1", x.ask(0, -1), Check.BAD);
        Check.due("37: ANT 5", x.ask(5, 0), Check.BAD);
        Check.due("37: ANT -1", x.ask(-1, 0), Check.BAD);
        Check.due("38: refused changes nothing", x.trace(0), 23);
        Check.due("38: refused changes nothing", x.trace(4), 10);
        x.ask(3, 0);
        Check.due("37: empty ahead of it", x.trace(2), Check.NONE);
    }

    private static void counted() {
        AntBand x = Check.told(FIVE);
        x.row(2, 0, 4);
        x.minutes(2);
        x.feed('w');
        int[] due = {1, 2, 5, 2, 20, 4, 2, 1};
        for (int what = 0; what <= 7; what++) {
            Check.due("39: count(" + what + ")", x.count(what), due[what]);
        }
        Check.due("39: -1", x.count(-1), Check.BAD);
        Check.due("39: 8", x.count(8), Check.BAD);
        Check.due("NONE", AntBand.NONE, Check.NONE);
        Check.due("BAD", AntBand.BAD, Check.BAD);
        Check.due("STATE", AntBand.STATE, Check.STATE);
        Check.due("FULL", AntBand.FULL, Check.FULL);
    }
}
