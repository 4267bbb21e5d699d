/** '======== 2' and promises 9 to 16: both ends of the band, REST, tenths, turning, LENGTH, PULLS in turn, ACTS. */
public final class MinuteEdgesTest {
    private static final int WHOLE = 1000000;

    public static void main(String[] args) {
        justAtTheThumb();
        justAtTheNail();
        onlyWhereItGoes();
        goesNoMore();
        restDivides();
        eachTenth();
        turnsAtTenTimesRest();
        gaitsAtTheirEnds();
        cutTowardsZero();
        longest();
        halves();
        pullsInTurn();
        pullsByMinute();
        Check.end("MinuteEdgesTest");
    }

    private static void at(String name, AntBand x, int part, int arrived) {
        Check.due("10: PART, " + name, x.ant(0, 2), part);
        Check.due("15: ARRIVED, " + name, x.ant(0, 3), arrived);
        Check.due("39: which ARRIVED, " + name, x.count(5) & 1, arrived);
    }

    private static AntBand behind(String text, int minutes) {
        AntBand x = Check.told(text);
        for (int m = 0; m < minutes; m++) {
            x.minutes(1);
        }
        return x;
    }

    private static void justAtTheThumb() {
        at("a step short", behind("w50;g0;p1,97,1;", 1), 990000, 0);
        at("just there", behind("w50;g0;p1,98,1;", 1), WHOLE, 1);
        at("beyond", behind("w50;g0;p1,99,1;", 1), WHOLE, 1);
        at("far beyond", behind("w1;g0;q20,99,1;", 1), WHOLE, 1);
        at("just there, by a quick one", behind("w12;g0;q1,50,1;", 1), WHOLE, 1);
        at("just there, all the band", behind("w20;g0;p20,0,1;", 1), WHOLE, 1);
        AntBand x = behind("w99;g0;p1,0,1;", 99);
        at("a millionth short", x, 999999, 0);
        x.minutes(1);
        at("beyond by a minute", x, WHOLE, 1);
        AntBand turned = behind("w99;g0;u1,11,1;", 10);
        at("a turner that turns", turned, 110000 - 101010, 0);
        turned.place(0, 99);
        turned.minutes(1);
        at("a turner at the thumb", turned, WHOLE, 1);
    }

    private static void justAtTheNail() {
        at("a step short", behind("w50;g0;b1,3,1;", 1), 10000, 0);
        at("just there", behind("w50;g0;b1,2,1;", 1), 0, 1);
        at("beyond", behind("w50;g0;b1,1,1;", 1), 0, 1);
        at("from the nail itself", behind("w50;g0;b1,0,1;", 1), 0, 1);
        at("far beyond", behind("w1;g0;b20,99,1;", 1), 0, 1);
        at("just there, by a turner", behind("w50;g0;u1,2,1;", 1), 0, 1);
        // 500000 less 333333 less 166666
        AntBand x = behind("w3;g3;b1,50,1;", 2);
        at("a millionth short", x, 1, 0);
        x.minutes(1);
        at("beyond by a minute", x, 0, 1);
        at("in the last MINUTE ahead of its turn", behind("w99;g0;u1,10,1;", 10), 0, 1);
    }

    /** At 0 going to the thumb, or at 99 going to the nail, it is not there. */
    private static void onlyWhereItGoes() {
        at("told at the nail", Check.told("w10;g0;b1,0,1;"), 0, 0);
        at("resting at the nail", behind("w10;g0;t1,0,1;", 24), 0, 0);
        at("from the nail to the thumb", behind("w10;g0;p1,0,1;", 1), 100000, 0);
        AntBand turned = behind("w99;g0;u1,90,1;", 10);
        turned.place(0, 0);
        turned.minutes(1);
        at("a turner that goes to the thumb", turned, 10101, 0);
        AntBand back = Check.told("w99;g0;b1,0,1;");
        back.place(0, 99);
        back.minutes(1);
        at("from the thumb to the nail", back, 979899, 0);
        back.place(0, 0);
        at("put at the nail", back, 0, 0);
        back.minutes(1);
        at("it ARRIVES from there", back, 0, 1);
    }

    private static void goesNoMore() {
        AntBand x = behind("w10;g1;q20,50,1;b20,50,1;u20,50,1;p1,0,1;", 1);
        int[] due = {WHOLE, 0, 0};
        for (int m = 1; m <= 40; m++) {
            for (int ant = 0; ant < 3; ant++) {
                Check.due("10: it goes no more", x.ant(ant, 2), due[ant]);
                Check.due("15: GAIT is 100 then", x.ant(ant, 4), 100);
                Check.due("15: ARRIVED", x.ant(ant, 3), 1);
            }
            x.minutes(1);
        }
        Check.due("39: LENGTH is more all the same", x.count(4), 51);
        Check.due("14: STEP of one that ARRIVED", x.step(2, 1), 20);
        Check.due("15: its GAIT yet", x.ant(2, 4), 100);
        x.minutes(1);
        Check.due("10: PART stays", x.ant(2, 2), 0);
    }

    private static void restDivides() {
        for (int rest = 1; rest <= 9; rest++) {
            AntBand x = Check.told("w99;g0;t1,0," + rest + ";p1,0," + rest + ";");
            int part = 0;
            for (int m = 0; m < 30; m++) {
                boolean rests = m % rest == 0;
                Check.due("15: GAIT at " + m + " by REST " + rest, x.ant(0, 4), rests ? 100 : 101);
                Check.due("15: a plain one does not rest", x.ant(1, 4), 101);
                x.minutes(1);
                part += rests ? 0 : 10101;
                Check.due("10: PART behind " + m + " by REST " + rest, x.ant(0, 2), part);
            }
        }
    }

    /** On 30 inches a tenth, then on 15: 33333 and 66666 millionths more, so one below the next tenth. */
    private static void eachTenth() {
        for (int tenth = 0; tenth <= 9; tenth++) {
            AntBand x = Check.told("w30;g30;q1,0,1;");
            for (int m = 0; m < tenth; m++) {
                x.minutes(1);
            }
            x.pull(0, 0);
            x.place(0, tenth * 10);
            Check.due("15: GAIT just at tenth " + tenth, x.ant(0, 4), 101 + tenth);
            x.minutes(1);
            at("behind tenth " + tenth, x, tenth * 100000 + 33333, 0);
            x.letGo();
            x.minutes(1);
            at("one below the next tenth", x, tenth * 100000 + 99999, 0);
            Check.due("15: GAIT one below the next tenth", x.ant(0, 4), 101 + tenth);
            x.place(0, Math.min(99, tenth * 10 + 10));
            Check.due("15: GAIT at the next tenth", x.ant(0, 4), tenth == 9 ? 110 : 102 + tenth);
        }
        AntBand others = Check.told("w99;g0;p1,95,1;t1,95,1;b1,95,1;u1,95,1;");
        others.minutes(1);
        int[] due = {101, 100, 99, 99};
        for (int ant = 0; ant < 4; ant++) {
            Check.due("15: no tenth counts for others", others.ant(ant, 4), due[ant]);
        }
    }

    private static void turnsAtTenTimesRest() {
        for (int rest = 1; rest <= 9; rest++) {
            AntBand x = behind("w99;g0;u1,99," + rest + ";b1,99," + rest + ";", 10 * rest - 1);
            at("just ahead of its turn", x, 990000 - (10 * rest - 1) * 10101, 0);
            Check.due("15: GAIT at MINUTE " + (10 * rest - 1), x.ant(0, 4), 99);
            x.minutes(1);
            at("at its turn", x, 990000 - 10 * rest * 10101, 0);
            Check.due("15: GAIT at MINUTE " + 10 * rest, x.ant(0, 4), 101);
            Check.due("15: GAIT of one that goes back", x.ant(1, 4), 99);
            x.minutes(1);
            at("behind its turn", x, 990000 - (10 * rest - 1) * 10101, 0);
            x.undo();
            x.undo();
            Check.due("9: GAIT at MINUTE " + (10 * rest - 1) + " again", x.ant(0, 4), 99);
        }
    }

    private static void gaitsAtTheirEnds() {
        AntBand x = Check.told("w1;g0;p1,0,1;p20,0,1;b1,9,1;b20,9,1;q20,99,1;u20,9,9;");
        int[] due = {101, 120, 99, 80, 129, 80};
        for (int ant = 0; ant < 6; ant++) {
            Check.due("15: GAIT of " + ant, x.ant(ant, 4), due[ant]);
        }
        AntBand tired = behind("w99;g0;t20,0,9;", 1);
        Check.due("15: GAIT of a tired one that goes", tired.ant(0, 4), 120);
    }

    private static void cutTowardsZero() {
        at("to the thumb on 3", behind("w3;g0;p1,0,1;", 1), 333333, 0);
        at("to the nail on 3: 333333 less, not 333334", behind("w3;g0;b1,50,1;", 1), 166667, 0);
        at("to the thumb on 7", behind("w7;g0;p3,0,1;", 1), 428571, 0);
        at("to the nail on 7", behind("w7;g0;b3,99,1;", 1), 561429, 0);
        AntBand x = behind("w99;g0;p1,0,1;", 99);
        Check.due("30: 98.99 inches are 98", x.inches(0), 98);
        Check.due("13: 99.99 hundredths are 99", x.place(0, 0), 99);
        AntBand near = behind("w3;g3;b1,50,1;", 2);
        Check.due("30: a millionth of 9 inches", near.inches(0), 0);
        Check.due("13: a millionth is in hundredth 0", near.place(0, 99), 0);
    }

    private static void longest() {
        AntBand x = Check.told("w99;g99;g98;t20,0,1;p1,0,1;");
        for (int turn = 0; turn < 4; turn++) {
            x.minutes(24);
        }
        Check.due("39: LENGTH", x.count(4), 99 + 48 * 99 + 48 * 98);
        x.pull(0, 99);
        x.pull(1, 99);
        Check.due("10: LENGTH", x.minutes(4), 9951);
        x.pull(0, 47);
        Check.due("10: one below 9999", x.minutes(1), 9998);
        x.pull(1, 1);
        Check.due("10: just 9999", x.minutes(1), 9999);
        x.pull(0, 1);
        Check.due("10: not 10000", x.minutes(1), 9999);
        x.undo();
        x.pull(0, 99);
        Check.due("10: 9999 at most", x.minutes(1), 9999);
        Check.due("10: 9999 yet", x.minutes(24), 9999);
        x.step(1, 20);
        x.place(1, 0);
        x.minutes(1);
        Check.due("10: PART on 9999 inches", x.ant(1, 2), 2000);
        Check.due("30: INCHES on 9999", x.inches(1), 19);
        Check.due("12: half of 9999", x.letGo(), 4999);
        x.pull(0, 0);
        x.pull(1, 0);
        x.minutes(1);
        Check.due("39: LENGTH by no INCHES", x.count(4), 4999);
    }

    private static void halves() {
        int[] from = {1, 2, 3, 4, 5, 50, 51, 98, 99};
        int[] due = {1, 1, 1, 2, 2, 25, 25, 49, 49};
        for (int i = 0; i < from.length; i++) {
            AntBand x = Check.told("w" + from[i] + ";g7;p1,33,1;");
            Check.due("12: half of " + from[i], x.letGo(), due[i]);
            Check.due("39: LENGTH then", x.count(4), due[i]);
            Check.due("39: an ACT", x.count(6), 1);
            Check.due("12: PART stays", x.ant(0, 2), 330000);
            Check.due("12: MINUTE stays", x.count(3), 0);
            Check.due("9: undone", x.undo(), 0);
            Check.due("9: LENGTH", x.count(4), from[i]);
        }
        AntBand x = Check.told("w99;g0;p1,0,1;");
        for (int due1 : new int[] {49, 24, 12, 6, 3, 1, 1, 1}) {
            Check.due("12: half again, 1 at least", x.letGo(), due1);
        }
    }

    private static void pullsInTurn() {
        for (int many = 1; many <= 5; many++) {
            StringBuilder text = new StringBuilder("w1;");
            for (int k = 0; k < many; k++) {
                text.append('g').append(1 << k).append(';');
            }
            AntBand x = Check.told(text + "t1,0,1;");
            int length = 1;
            for (int m = 0; m < 13; m++) {
                length += 1 << m % many;
                Check.due("10: PULL " + m % many + " of " + many, x.minutes(1), length);
            }
            AntBand y = Check.told(text + "t1,0,1;");
            Check.due("10: at once", y.minutes(13), length);
        }
    }

    /** Which PULL comes hangs on MINUTE alone, not on how many were pulled. */
    private static void pullsByMinute() {
        AntBand x = Check.told("w1;g1;g10;g50;t1,0,1;");
        x.minutes(2);
        Check.due("39: LENGTH", x.count(4), 12);
        x.undo();
        Check.due("10: the second PULL again", x.minutes(1), 12);
        x.letGo();
        x.step(0, 3);
        x.place(0, 9);
        Check.due("10: other ACTS turn no PULL", x.minutes(1), 56);
        x.pull(0, 2);
        Check.due("10: the first again, another now", x.minutes(1), 58);
        x.image(0);
        x.minutes(1);
        x.restore(0);
        Check.due("34: by the MINUTE of the IMAGE", x.minutes(1), 68);
        AntBand old = Check.told("w1;g1;g2;t1,0,1;");
        for (int turn = 0; turn < 41; turn++) {
            old.minutes(24);
        }
        Check.due("39: LENGTH at 984", old.count(4), 1 + 492 * 3);
        old.minutes(14);
        Check.due("10: at 998 the first of two", old.minutes(1), 1 + 499 * 3 + 1);
        Check.due("39: MINUTE", old.count(3), 999);
    }
}
