/** Promises 10 to 16: minutes, pull, letGo, place, step, ant, pulls. */
public final class DoneTest {
    /** One of each KIND; what they do in five MINUTES was reckoned by hand. */
    static final String FIVE = "w10;g10;g0;p2,0,1;t3,20,2;q1,45,3;b2,50,1;u1,90,1;";
    private static final int[][] PARTS = {
        {0, 200000, 450000, 500000, 900000},
        {200000, 200000, 950000, 300000, 800000},
        {300000, 350000, 1000000, 200000, 750000},
        {400000, 350000, 1000000, 100000, 700000},
        {466666, 450000, 1000000, 33334, 666667},
        {533332, 450000, 1000000, 0, 633334},
    };
    private static final int[] LENGTHS = {10, 20, 20, 30, 30, 40};
    private static final int[] ARRIVED = {0, 0, 4, 4, 4, 12};

    public static void main(String[] args) {
        minutesPass();
        gaits();
        turnersTurn();
        lengthHasAnEnd();
        minutesHaveAnEnd();
        pullsAreOthers();
        bandsAreLetGo();
        antsArePut();
        stepsAreOthers();
        antsAreTold();
        Check.end("DoneTest");
    }

    private static void minutesPass() {
        AntBand none = new AntBand();
        Check.due("10: no WALL", none.minutes(1), Check.STATE);
        Check.due("10: no WALL, ahead of BAD", none.minutes(0), Check.STATE);
        AntBand x = Check.told(FIVE);
        for (int m = 0; m <= 5; m++) {
            if (m > 0) {
                Check.due("10: minutes(1)", x.minutes(1), LENGTHS[m]);
            }
            for (int ant = 0; ant < 5; ant++) {
                Check.due("10: PART of " + ant + " at " + m, x.ant(ant, 2), PARTS[m][ant]);
                Check.due("10: ARRIVED " + ant + " at " + m, x.ant(ant, 3), ARRIVED[m] >> ant & 1);
            }
            Check.due("10: LENGTH", x.count(4), LENGTHS[m]);
            Check.due("10: MINUTE", x.count(3), m);
            Check.due("10: which ARRIVED", x.count(5), ARRIVED[m]);
            Check.due("10: ACTS", x.count(6), m);
        }
        AntBand y = Check.told(FIVE);
        Check.due("10: minutes(5)", y.minutes(5), 40);
        Check.due("10: an ACT each", y.count(6), 5);
        Check.due("10: PART", y.ant(0, 2), 533332);
        Check.due("10: 0", y.minutes(0), Check.BAD);
        Check.due("10: -1", y.minutes(-1), Check.BAD);
        Check.due("10: 25", y.minutes(25), Check.BAD);
        Check.due("10: greatest", y.minutes(Integer.MAX_VALUE), Check.BAD);
        Check.due("10: refused changes nothing", y.count(3) * 100 + y.count(6), 505);
        Check.due("10: 24", y.minutes(24), 160);
    }

    private static void gaits() {
        AntBand x = Check.told(FIVE);
        int[][] due = {{102, 100, 105, 98, 99}, {102, 103, 110, 98, 99}, {102, 100, 100, 98, 99}};
        for (int m = 0; m < due.length; m++) {
            for (int ant = 0; ant < 5; ant++) {
                Check.due("15: GAIT of " + ant + " at " + m, x.ant(ant, 4), due[m][ant]);
            }
            x.minutes(1);
        }
        AntBand tired = Check.told("w10;g99;t4,0,3;");
        for (int m = 0; m < 12; m++) {
            Check.due("15: GAIT of a tired one at " + m, tired.ant(0, 4), m % 3 == 0 ? 100 : 104);
            tired.minutes(1);
        }
        AntBand quick = Check.told("w99;g0;q2,9,1;q2,10,1;q2,99,1;");
        Check.due("15: below a tenth", quick.ant(0, 4), 102);
        Check.due("15: a tenth", quick.ant(1, 4), 103);
        Check.due("15: nine tenths", quick.ant(2, 4), 111);
    }

    private static void turnersTurn() {
        AntBand x = Check.told("w99;g0;u1,50,1;u1,50,2;b1,50,1;");
        x.minutes(9);
        Check.due("10: to the nail at 9", x.ant(0, 4), 99);
        x.minutes(1);
        Check.due("10: to the thumb at 10", x.ant(0, 4), 101);
        Check.due("10: REST 2 not yet", x.ant(1, 4), 99);
        Check.due("10: one that goes back never", x.ant(2, 4), 99);
        Check.due("10: PART", x.ant(0, 2), 500000 - 10 * 10101);
        x.minutes(10);
        Check.due("10: PART back again", x.ant(0, 2), 500000);
        Check.due("10: REST 2 at 20", x.ant(1, 4), 101);
        AntBand y = Check.told("w10;g0;u1,0,1;b1,0,1;p1,0,1;t1,0,1;b1,99,1;");
        y.minutes(1);
        Check.due("10: at the nail, going to it, they ARRIVE", y.count(5), 3);
        Check.due("10: PART at the nail", y.ant(0, 2), 0);
        y.minutes(24);
        Check.due("10: what ARRIVED goes no more", y.ant(0, 2), 0);
        AntBand z = Check.told("w50;g0;b1,2,1;b1,3,1;");
        z.minutes(1);
        Check.due("10: just 0 is there", z.count(5), 1);
        AntBand near = Check.told("w3;g3;b1,50,1;");
        near.minutes(2);
        Check.due("10: a millionth from the nail", near.ant(0, 2), 1);
        Check.due("10: it did not ARRIVE", near.ant(0, 3), 0);
        near.minutes(1);
        Check.due("10: it ARRIVED", near.ant(0, 3), 1);
        AntBand v = Check.told("w50;g0;p1,98,1;p1,97,1;");
        v.minutes(1);
        Check.due("10: just 1000000 is there", v.count(5), 1);
        Check.due("10: PART is just that", v.ant(0, 2), 1000000);
    }

    private static void lengthHasAnEnd() {
        AntBand x = Check.told("w99;g99;t1,0,1;");
        for (int turn = 0; turn < 4; turn++) {
            Check.due("10: LENGTH", x.minutes(24), 99 + 99 * 24 * (turn + 1));
        }
        Check.due("10: LENGTH", x.minutes(3), 99 * 100);
        Check.due("10: LENGTH is just 9999", x.minutes(1), 9999);
        Check.due("10: LENGTH is 9999 at most", x.minutes(1), 9999);
        x.letGo();
        x.pull(0, 98);
        for (int turn = 0; turn < 51; turn++) {
            x.minutes(1);
        }
        Check.due("10: LENGTH", x.count(4), 4999 + 51 * 98);
        Check.due("10: cut to 9999", x.minutes(1), 9999);
        Check.due("18: foretold, too", x.band(99, 0), 9999);
    }

    private static void minutesHaveAnEnd() {
        AntBand x = Check.told("w1;g0;t1,0,1;");
        for (int turn = 0; turn < 41; turn++) {
            x.minutes(24);
        }
        Check.due("10: MINUTE", x.count(3), 984);
        Check.due("10: FULL", x.minutes(16), Check.FULL);
        Check.due("10: BAD ahead of FULL", x.minutes(25), Check.BAD);
        Check.due("10: FULL changes nothing", x.count(3), 984);
        Check.due("10: up to 999", x.minutes(15), 1);
        Check.due("10: MINUTE", x.count(3), 999);
        Check.due("10: FULL", x.minutes(1), Check.FULL);
        Check.due("17: foretold beyond", x.ahead(0, 99), 0);
        x.undo();
        Check.due("10: room again", x.minutes(1), 1);
    }

    private static void pullsAreOthers() {
        AntBand none = new AntBand();
        Check.due("11: no WALL", none.pull(0, 1), Check.BAD);
        AntBand x = Check.told(FIVE);
        Check.due("11: pull", x.pull(1, 99), 0);
        Check.due("11: an ACT", x.count(6), 1);
        Check.due("11: pull", x.pull(1, 0), 99);
        Check.due("11: pull", x.pull(0, 7), 10);
        Check.due("11: PULL -1", x.pull(-1, 1), Check.BAD);
        Check.due("11: PULL 2", x.pull(2, 1), Check.BAD);
        Check.due("11: -1 inches", x.pull(0, -1), Check.BAD);
        Check.due("11: 100 inches", x.pull(0, 100), Check.BAD);
        Check.due("11: ACTS", x.count(6), 3);
        Check.due("11: LENGTH then", x.minutes(1), 17);
        Check.due("11: undone", x.undo(), 3);
        Check.due("11: undone", x.undo(), 2);
        Check.due("11: as before", x.pulls(0), 10);
    }

    private static void bandsAreLetGo() {
        AntBand none = new AntBand();
        Check.due("12: no WALL", none.letGo(), Check.STATE);
        AntBand x = Check.told("w11;g0;p1,50,1;");
        Check.due("12: half, cut", x.letGo(), 5);
        Check.due("12: half, cut", x.letGo(), 2);
        Check.due("12: half", x.letGo(), 1);
        Check.due("12: 1 at least", x.letGo(), 1);
        Check.due("12: an ACT each", x.count(6), 4);
        Check.due("12: PART stays", x.ant(0, 2), 500000);
        Check.due("12: MINUTE stays", x.count(3), 0);
    }

    private static void antsArePut() {
        AntBand none = new AntBand();
        Check.due("13: no WALL", none.place(0, 1), Check.BAD);
        AntBand x = Check.told(FIVE);
        x.minutes(4);
        Check.due("13: place", x.place(0, 99), 46);
        Check.due("13: PART", x.ant(0, 2), 990000);
        Check.due("13: an ACT", x.count(6), 5);
        Check.due("13: FROM stays as told", x.ant(0, 5), 0);
        Check.due("13: place", x.place(0, 0), 99);
        Check.due("13: PART", x.ant(0, 2), 0);
        Check.due("13: at 100", x.place(0, 100), Check.BAD);
        Check.due("13: at -1", x.place(0, -1), Check.BAD);
        Check.due("13: ANT -1", x.place(-1, 0), Check.BAD);
        Check.due("13: ANT 5", x.place(5, 0), Check.BAD);
        Check.due("13: it ARRIVED", x.place(2, 0), Check.STATE);
        Check.due("13: BAD ahead of STATE", x.place(2, 100), Check.BAD);
        Check.due("13: refused changes nothing", x.count(6), 6);
        Check.due("13: ANT 4", x.place(4, 1), 66);
    }

    private static void stepsAreOthers() {
        AntBand none = new AntBand();
        Check.due("14: no WALL", none.step(0, 1), Check.BAD);
        AntBand x = Check.told(FIVE);
        Check.due("14: step", x.step(0, 20), 2);
        Check.due("14: STEP", x.ant(0, 0), 20);
        Check.due("14: an ACT", x.count(6), 1);
        Check.due("14: step", x.step(0, 1), 20);
        Check.due("14: 0", x.step(0, 0), Check.BAD);
        Check.due("14: 21", x.step(0, 21), Check.BAD);
        Check.due("14: ANT -1", x.step(-1, 1), Check.BAD);
        Check.due("14: ANT 5", x.step(5, 1), Check.BAD);
        x.minutes(2);
        Check.due("14: PART then", x.ant(0, 2), 150000);
        Check.due("14: of one that ARRIVED", x.step(2, 9), 1);
        Check.due("14: PART stays", x.ant(2, 2), 1000000);
    }

    private static void antsAreTold() {
        AntBand none = new AntBand();
        Check.due("15: no WALL", none.ant(0, 0), Check.BAD);
        Check.due("16: no WALL", none.pulls(0), Check.NONE);
        Check.due("16: no WALL, below 0", none.pulls(-1), Check.BAD);
        AntBand x = Check.told(FIVE);
        int[] due = {3, 2, 200000, 0, 100, 20};
        for (int what = 0; what < 6; what++) {
            Check.due("15: ant(1, " + what + ")", x.ant(1, what), due[what]);
        }
        x.minutes(2);
        int[] there = {1, 3, 1000000, 1, 100, 45};
        for (int what = 0; what < 6; what++) {
            Check.due("15: ant(2, " + what + ")", x.ant(2, what), there[what]);
        }
        Check.due("15: what -1", x.ant(1, -1), Check.BAD);
        Check.due("15: what 6", x.ant(1, 6), Check.BAD);
        Check.due("15: ANT -1", x.ant(-1, 0), Check.BAD);
        Check.due("15: ANT 5", x.ant(5, 0), Check.BAD);
        Check.due("16: pulls(0)", x.pulls(0), 10);
        Check.due("16: pulls(1)", x.pulls(1), 0);
        Check.due("16: pulls(2)", x.pulls(2), Check.NONE);
        Check.due("16: greatest", x.pulls(Integer.MAX_VALUE), Check.NONE);
        Check.due("16: below 0", x.pulls(-1), Check.BAD);
    }
}
