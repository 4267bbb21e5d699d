/** Promises 17 to 34 by hand; ModelTest looks at the same calls by many walls. */
public final class ForetoldTest {
    private static final String FIVE = DoneTest.FIVE;

    public static void main(String[] args) {
        ahead();
        arriving();
        meeting();
        fastAndPull();
        orders();
        halves();
        rests();
        passing();
        marks();
        inches();
        winds();
        draws();
        images();
        nothingChanges();
        Check.end("ForetoldTest");
    }

    private static void ahead() {
        AntBand none = new AntBand();
        Check.due("17: no WALL", none.ahead(0, 0), Check.BAD);
        Check.due("18: no WALL", none.band(0, 0), Check.STATE);
        Check.due("18: no WALL, ahead of BAD", none.band(-1, 2), Check.STATE);
        Check.due("20: no WALL", none.leads(0), Check.STATE);
        Check.due("20: no WALL, ahead of BAD", none.leads(100), Check.STATE);
        AntBand x = Check.told(FIVE);
        int[] parts = {0, 200000, 300000, 400000, 466666, 533332};
        int[] lengths = {10, 20, 20, 30, 30, 40};
        int[] arrived = {0, 0, 4, 4, 4, 12};
        int[] leads = {4, 2, 2, 2, 2, 2};
        for (int n = 0; n <= 5; n++) {
            Check.due("17: ahead", x.ahead(0, n), parts[n]);
            Check.due("18: LENGTH", x.band(n, 0), lengths[n]);
            Check.due("18: which ARRIVED", x.band(n, 1), arrived[n]);
            Check.due("20: leads", x.leads(n), leads[n]);
        }
        Check.due("17: -1", x.ahead(0, -1), Check.BAD);
        Check.due("17: 100", x.ahead(0, 100), Check.BAD);
        Check.due("17: ANT -1", x.ahead(-1, 0), Check.BAD);
        Check.due("17: ANT 5", x.ahead(5, 0), Check.BAD);
        Check.due("17: 99", x.ahead(2, 99), 1000000);
        Check.due("18: 99", x.band(99, 0), 10 + 50 * 10);
        Check.due("18: -1", x.band(-1, 0), Check.BAD);
        Check.due("18: 100", x.band(100, 0), Check.BAD);
        Check.due("18: what -1", x.band(0, -1), Check.BAD);
        Check.due("18: what 2", x.band(0, 2), Check.BAD);
        Check.due("20: -1", x.leads(-1), Check.BAD);
        Check.due("20: 100", x.leads(100), Check.BAD);
        x.minutes(1);
        Check.due("18: PULLS go on in turn", x.band(1, 0), 20);
        Check.due("18: PULLS go on in turn", x.band(2, 0), 30);
        Check.due("17: from now on", x.ahead(0, 4), 533332);
        AntBand y = Check.told("w10;g0;p1,10,1;p2,0,1;p1,10,1;");
        Check.due("20: of several the first", y.leads(0), 0);
        Check.due("20: of several the first", y.leads(1), 0);
        Check.due("20: ahead then", y.leads(2), 1);
    }

    private static void arriving() {
        AntBand none = new AntBand();
        Check.due("19: no WALL", none.arrives(0), Check.BAD);
        AntBand x = Check.told(FIVE);
        Check.due("19: quick", x.arrives(2), 2);
        Check.due("19: back", x.arrives(3), 5);
        Check.due("19: ANT -1", x.arrives(-1), Check.BAD);
        Check.due("19: ANT 5", x.arrives(5), Check.BAD);
        x.minutes(2);
        Check.due("19: it did", x.arrives(2), 0);
        Check.due("19: fewer now", x.arrives(3), 3);
        AntBand y = Check.told("w99;g0;t1,0,1;p1,0,1;t1,0,2;");
        Check.due("19: never", y.arrives(0), Check.NONE);
        Check.due("19: 10101 a minute", y.arrives(1), 100);
        Check.due("19: just 200", y.arrives(2), 200);
        y.minutes(1);
        Check.due("19: 199 then", y.arrives(2), 199);
        AntBand z = Check.told("w10;g0;t1,0,2;");
        z.minutes(1);
        z.place(0, 0);
        Check.due("19: every other minute", z.arrives(0), 19);
        AntBand v = Check.told("w99;g0;u1,1,9;u2,50,1;");
        Check.due("19: to the nail", v.arrives(0), 1);
        Check.due("19: turns in time", v.arrives(1), 45);
        AntBand far = Check.told("w99;g0;t1,0,2;");
        far.minutes(2);
        far.place(0, 0);
        Check.due("19: 200 at most", far.arrives(0), 200);
        far.letGo();
        Check.due("19: half the band", far.arrives(0), 100);
        AntBand late = Check.told("w99;g0;t1,0,2;");
        late.pull(0, 2);
        late.minutes(1);
        late.pull(0, 0);
        // 9900 every other MINUTE: 102 times, in 203
        Check.due("19: not within 200", late.arrives(0), Check.NONE);
    }

    private static void meeting() {
        AntBand none = new AntBand();
        Check.due("21: no WALL", none.meet(0, 1), Check.BAD);
        AntBand x = Check.told(FIVE);
        Check.due("21: alike", x.meet(1, 1), Check.BAD);
        Check.due("21: ANT -1", x.meet(-1, 1), Check.BAD);
        Check.due("21: other 5", x.meet(1, 5), Check.BAD);
        Check.due("21: alike by PART", x.meet(0, 1), 1);
        Check.due("21: the other way about", x.meet(1, 0), 1);
        Check.due("21: behind is ahead", x.meet(0, 3), 2);
        Check.due("21: behind is ahead", x.meet(2, 4), 1);
        x.minutes(1);
        Check.due("21: alike now", x.meet(0, 1), 0);
        x.minutes(1);
        Check.due("21: behind is ahead", x.meet(0, 1), 1);
        AntBand y = Check.told("w10;g0;p1,0,1;p1,10,1;b1,0,1;t1,20,1;t1,30,1;");
        Check.due("21: at the thumb both", y.meet(0, 1), 10);
        Check.due("21: alike at first", y.meet(0, 2), 0);
        Check.due("21: never", y.meet(3, 4), Check.NONE);
        AntBand z = Check.told("w99;g0;t1,0,2;t1,99,1;t20,99,1;p20,98,1;");
        z.minutes(2);
        z.place(0, 0);
        Check.due("21: 200 at most", z.meet(0, 3), 200);
    }

    private static void fastAndPull() {
        AntBand none = new AntBand();
        Check.due("22: no WALL", none.fast(0, 1), Check.BAD);
        Check.due("23: no WALL", none.pullFor(0, 1), Check.BAD);
        AntBand x = Check.told("w10;g0;p1,0,1;t1,0,1;b1,50,1;q1,99,1;");
        Check.due("22: one MINUTE", x.fast(0, 1), 10);
        Check.due("22: two", x.fast(0, 2), 5);
        Check.due("22: three", x.fast(0, 3), 4);
        Check.due("22: never", x.fast(1, 99), Check.NONE);
        Check.due("22: to the nail", x.fast(2, 1), 5);
        Check.due("22: the least", x.fast(3, 1), 1);
        Check.due("22: 99", x.fast(0, 99), 1);
        Check.due("22: 0", x.fast(0, 0), Check.BAD);
        Check.due("22: 100", x.fast(0, 100), Check.BAD);
        Check.due("22: ANT 4", x.fast(4, 1), Check.BAD);
        Check.due("22: ANT -1", x.fast(-1, 1), Check.BAD);
        // 100000, then a million by 10 and the PULL, and so on: by 0 it is there in 10 MINUTES
        Check.due("23: ten MINUTES", x.pullFor(0, 10), 0);
        Check.due("23: nine", x.pullFor(0, 9), Check.NONE);
        Check.due("23: one, whatever the PULL", x.pullFor(3, 1), 99);
        Check.due("23: never", x.pullFor(1, 99), Check.NONE);
        Check.due("23: 0", x.pullFor(0, 0), Check.BAD);
        Check.due("23: 100", x.pullFor(0, 100), Check.BAD);
        Check.due("23: ANT 4", x.pullFor(4, 1), Check.BAD);
        x.step(0, 5);
        // 500000 + 5000000 / (10 + 0) is there in 2; in 3: 5/(10+g) + 5/(10+2g) >= 1/2 for g <= 7
        Check.due("23: two", x.pullFor(0, 2), 0);
        Check.due("23: three", x.pullFor(0, 3), 7);
        x.minutes(1);
        Check.due("22: it ARRIVED", x.fast(3, 1), Check.STATE);
        Check.due("23: it ARRIVED", x.pullFor(3, 1), Check.STATE);
        Check.due("22: BAD ahead of STATE", x.fast(3, 0), Check.BAD);
        Check.due("23: BAD ahead of STATE", x.pullFor(3, 0), Check.BAD);
    }

    private static void orders() {
        AntBand none = new AntBand();
        Check.due("24: no WALL", none.order(0, 0, -1), Check.BAD);
        AntBand x = Check.told("w10;g9;g0;g5;p4,0,1;t1,0,1;q9,90,1;");
        // 0, 5, 9: 400000 + 400000 + 266666; each that begins with 9 or 5 needs more
        Check.due("24: soonest", x.order(0, 0, -1), 3);
        Check.due("24: soonest, PULL 0", x.order(0, 0, 0), 1);
        Check.due("24: soonest, PULL 1", x.order(0, 0, 1), 0);
        Check.due("24: soonest, PULL 2", x.order(0, 0, 2), 2);
        // 9, 0, 5: 400000, 210526, 210526, 166666, 121212: in 5; 9, 5, 0 too, but it is not the first
        Check.due("24: latest", x.order(0, 1, -1), 5);
        Check.due("24: latest, PULL 0", x.order(0, 1, 0), 0);
        Check.due("24: latest, PULL 1", x.order(0, 1, 1), 1);
        Check.due("24: latest, PULL 2", x.order(0, 1, 2), 2);
        Check.due("24: no such one", x.order(0, 0, 3), Check.NONE);
        Check.due("24: never", x.order(1, 0, -1), Check.NONE);
        Check.due("24: never", x.order(1, 1, -1), Check.NONE);
        Check.due("24: of several the first", x.order(1, 1, 1), 1);
        Check.due("24: of several the first", x.order(2, 1, 0), 0);
        Check.due("24: at once", x.order(2, 1, -1), 1);
        Check.due("24: k -2", x.order(0, 0, -2), Check.BAD);
        Check.due("24: late 2", x.order(0, 2, 0), Check.BAD);
        Check.due("24: late -1", x.order(0, -1, 0), Check.BAD);
        Check.due("24: ANT 3", x.order(3, 0, 0), Check.BAD);
        Check.due("24: ANT -1", x.order(-1, 0, 0), Check.BAD);
        x.minutes(1);
        Check.due("24: it ARRIVED", x.order(2, 0, -1), Check.STATE);
        Check.due("24: it ARRIVED, k beyond", x.order(2, 0, 9), Check.STATE);
        Check.due("24: BAD ahead of STATE", x.order(2, 0, -2), Check.BAD);
        AntBand far = Check.told("w99;g0;t1,0,2;");
        Check.due("24: just 200", far.order(0, 0, -1), 200);
        Check.due("24: just 200", far.order(0, 1, -1), 200);
        AntBand y = Check.told("w10;g0;g9;p5,0,1;");
        Check.due("24: soonest of two", y.order(0, 0, -1) * 100 + y.order(0, 0, 0) * 10 + y.order(0, 0, 1), 201);
        Check.due("24: latest of two", y.order(0, 1, -1) * 100 + y.order(0, 1, 0) * 10 + y.order(0, 1, 1), 310);
        AntBand z = Check.told("w5;g5;g9;p5,0,1;");
        z.place(0, 0);
        z.letGo();
        z.step(0, 1);
        z.minutes(1);
        z.step(0, 3);
        // at 500000 on 7 inches, and PULL 1 would come next
        // by PULLS 0, 1: 428571, 250000: in 2; by 1, 0: 428571, 187500: in 2, and not the first
        Check.due("24: as if MINUTE were 0", z.order(0, 1, -1) * 10 + z.order(0, 1, 0), 20);
        z.pull(1, 99);
        // by PULLS 0, 1: 428571, 250000; by 1, 0: 428571, 28301, 27027, 14285, 13953: in 5
        Check.due("24: as if MINUTE were 0", z.order(0, 0, -1) * 10 + z.order(0, 0, 0), 20);
        Check.due("24: as if MINUTE were 0", z.order(0, 1, -1) * 10 + z.order(0, 1, 0), 51);
    }

    private static void halves() {
        AntBand none = new AntBand();
        Check.due("25: no WALL", none.half(0), Check.BAD);
        AntBand x = Check.told("w10;g0;p1,0,1;p2,20,1;p2,70,1;b1,70,1;p1,50,1;q9,90,1;");
        Check.due("25: just that", x.half(0), 5);
        Check.due("25: the other side", x.half(1), 2);
        Check.due("25: away from it", x.half(2), Check.NONE);
        Check.due("25: back to it", x.half(3), 2);
        Check.due("25: at it now", x.half(4), 0);
        Check.due("25: ANT 6", x.half(6), Check.BAD);
        Check.due("25: ANT -1", x.half(-1), Check.BAD);
        x.minutes(1);
        Check.due("25: it ARRIVED", x.half(5), Check.STATE);
        Check.due("25: behind it now", x.half(4), Check.NONE);
        AntBand y = Check.told("w99;g99;p1,1,1;");
        Check.due("25: not within 200", y.half(0), Check.NONE);
        AntBand z = Check.told("w1;g0;t1,0,9;");
        Check.due("25: by one leap", z.half(0), 2);
        AntBand v = Check.told("w50;g75;t1,0,2;");
        v.minutes(2);
        v.pull(0, 0);
        v.place(0, 0);
        // 5000 every other MINUTE on 200 inches, from the next one on
        Check.due("25: just 200", v.half(0), 200);
    }

    private static void rests() {
        AntBand none = new AntBand();
        Check.due("26: no WALL", none.rest(0, 1), Check.BAD);
        AntBand x = Check.told("w99;g0;t1,0,1;p1,0,1;u1,90,1;q20,99,1;");
        Check.due("26: all rest at 0", x.rest(0, 1), 1);
        Check.due("26: 2 goes at 1", x.rest(0, 2), 2);
        Check.due("26: 3 goes at 1 and 2", x.rest(0, 3), 3);
        Check.due("26: 4 goes at 1 to 3", x.rest(0, 4), 4);
        Check.due("26: 9 goes at 1 to 8", x.rest(0, 99), 9);
        Check.due("26: no matter", x.rest(1, 9), 1);
        Check.due("26: turns soonest", x.rest(2, 30), 1);
        Check.due("26: 0", x.rest(0, 0), Check.BAD);
        Check.due("26: 100", x.rest(0, 100), Check.BAD);
        Check.due("26: ANT 4", x.rest(4, 1), Check.BAD);
        Check.due("26: ANT -1", x.rest(-1, 1), Check.BAD);
        x.minutes(1);
        Check.due("26: it ARRIVED", x.rest(3, 1), Check.STATE);
        Check.due("26: BAD ahead of STATE", x.rest(3, 0), Check.BAD);
        Check.due("26: from MINUTE 1 on", x.rest(0, 1), 2);
    }

    private static void passing() {
        AntBand none = new AntBand();
        Check.due("27: no WALL", none.passed(0, 1), Check.BAD);
        AntBand x = Check.told("w10;g0;p1,20,1;p2,0,1;p3,20,1;p1,30,1;b1,10,1;q9,0,1;");
        Check.due("27: one MINUTE", x.passed(0, 1), 4 + 32);
        Check.due("27: two MINUTES: alike is not ahead", x.passed(0, 2), 4 + 32);
        Check.due("27: three MINUTES", x.passed(0, 3), 2 + 4 + 32);
        Check.due("27: at the end", x.passed(0, 99), 2 + 4 + 32);
        Check.due("27: 0", x.passed(0, 0), Check.BAD);
        Check.due("27: 100", x.passed(0, 100), Check.BAD);
        Check.due("27: ANT 6", x.passed(6, 1), Check.BAD);
        Check.due("27: ANT -1", x.passed(-1, 1), Check.BAD);
        x.minutes(1);
        Check.due("27: one that ARRIVED", x.passed(4, 1), 0);
        x.minutes(1);
        Check.due("27: one that ARRIVED at the thumb", x.passed(5, 99), 0);
        AntBand y = Check.told("w10;g0;u1,90,1;b1,30,1;p1,0,1;");
        y.minutes(1);
        Check.due("27: ahead only for a while", y.passed(1, 99), 4);
    }

    private static void marks() {
        AntBand none = new AntBand();
        Check.due("28: no WALL", none.who(0, 0, 0, 0, 1), Check.BAD);
        Check.due("29: no WALL", none.which(0, 0, 1), Check.STATE);
        Check.due("29: no WALL, ahead of BAD", none.which(8, 0, 1), Check.STATE);
        AntBand x = Check.told(FIVE);
        Check.due("28: NULL", x.who(0, 0, 0, 0, 1), Check.NULL);
        Check.due("28: status", x.status(), 1);
        Check.due("29: NULL", x.which(0, 0, 1), Check.NULL);
        Check.fill(x, 0, 0, 20, 30, 40, 46, 53);
        Check.due("28: PLAIN alone", x.who(0, 0, 0, 1, 5), 1 << 1);
        Check.due("28: status", x.status(), 0);
        Check.due("28: PLAIN and QUICK in one MINUTE", x.who(0, 0, 0, 1, 1), 1 << 1 | 1 << 3);
        Check.due("28: STEP 2", x.who(0, 1, 0, 1, 5), 1 << 2);
        Check.due("28: any REST", x.who(0, 2, 0, 1, 5), 1022);
        Check.due("28: resting, STEP is no matter", x.who(1, 1, 0, 1, 1), 0x1FFFFE);
        Check.due("29: two alike", x.which(0, 1, 1), 3);
        Check.due("29: one of them", x.which(0, 1, 5), 1);
        Check.due("29: none", x.which(0, 0, 1), 0);
        Check.fill(x, 1, 20, 35, 35, 45, 45, 52);
        Check.due("28: TIRED", x.who(1, 0, 1, 0, 6), 1 << 2);
        Check.due("28: RESTS", x.who(1, 2, 1, 0, 5), 1 << 2);
        Check.due("29: the tired one", x.which(1, 0, 6), 2);
        Check.fill(x, 2, 80, 75, 70, 66, 63);
        Check.due("28: BACK and TURNER", x.who(4, 0, 2, 0, 5), 1 << 4 | 1 << 5);
        markRefusals(x);
        marksOfOneThatArrived();
    }

    private static void markRefusals(AntBand x) {
        Check.due("28: ANT 5", x.who(5, 0, 0, 0, 1), Check.BAD);
        Check.due("28: ANT -1", x.who(-1, 0, 0, 0, 1), Check.BAD);
        Check.due("28: which 3", x.who(0, 3, 0, 0, 1), Check.BAD);
        Check.due("28: which -1", x.who(0, -1, 0, 0, 1), Check.BAD);
        Check.due("28: ROW 8", x.who(0, 0, 8, 0, 1), Check.BAD);
        Check.due("28: ROW -1", x.who(0, 0, -1, 0, 1), Check.BAD);
        Check.due("28: n 0", x.who(0, 0, 0, 0, 0), Check.BAD);
        Check.due("28: n 13", x.who(0, 0, 0, 0, 13), Check.BAD);
        Check.due("28: BAD ahead of NULL", x.who(0, 0, 7, 0, 13), Check.BAD);
        Check.due("28: NULL ahead of PLACE", x.who(0, 0, 7, -1, 1), Check.NULL);
        Check.due("28: PLACE below", x.who(0, 0, 0, -1, 1), Check.PLACE);
        Check.due("28: PLACE beyond", x.who(0, 0, 0, 6, 1), Check.PLACE);
        Check.due("28: PLACE too far", x.who(0, 0, 0, 1, 6), Check.PLACE);
        Check.due("28: PLACE greatest", x.who(0, 0, 0, Integer.MAX_VALUE, 12), Check.PLACE);
        Check.due("28: status", x.status(), 2);
        Check.due("29: ROW 8", x.which(8, 0, 1), Check.BAD);
        Check.due("29: ROW -1", x.which(-1, 0, 1), Check.BAD);
        Check.due("29: n 0", x.which(0, 0, 0), Check.BAD);
        Check.due("29: n 13", x.which(0, 0, 13), Check.BAD);
        Check.due("29: status stays", x.status(), 2);
        Check.due("29: NULL", x.which(7, 9, 1), Check.NULL);
        Check.due("29: PLACE below", x.which(0, -1, 1), Check.PLACE);
        Check.due("29: PLACE too far", x.which(0, 0, 7), Check.PLACE);
        Check.due("29: none found", x.which(0, 0, 6), 0);
        Check.due("29: status", x.status(), 0);
    }

    private static void marksOfOneThatArrived() {
        AntBand x = Check.told("w1;g0;p1,0,1;b1,0,1;");
        x.minutes(1);
        x.row(0, 0, 12);
        Check.due("28: at the nail, all fits", x.who(1, 0, 0, 0, 12), 62);
        Check.due("28: STEPS", x.who(1, 1, 0, 0, 12), 0x1FFFFE);
        Check.due("29: the one at the nail", x.which(0, 0, 12), 2);
        x.set(0, 0, 100);
        Check.due("28: at the thumb", x.who(0, 2, 0, 0, 1), 1022);
        Check.due("29: at the thumb", x.which(0, 0, 1), 1);
        x.set(0, 0, 356);
        Check.due("29: 356 is 100 as a byte", x.which(0, 0, 1), 1);
        x.row(0, 1, 12);
        x.set(0, 0, 356);
        Check.due("29: 356 as a short", x.which(0, 0, 1), 0);
    }

    private static void inches() {
        AntBand none = new AntBand();
        Check.due("30: no WALL", none.inches(0), Check.BAD);
        AntBand x = Check.told(FIVE);
        Check.due("30: at first", x.inches(3), 5);
        x.minutes(4);
        Check.due("30: cut", x.inches(0), 13);
        Check.due("30: cut", x.inches(3), 1);
        Check.due("30: at the thumb", x.inches(2), 30);
        Check.due("30: ANT 5", x.inches(5), Check.BAD);
        Check.due("30: ANT -1", x.inches(-1), Check.BAD);
        AntBand y = Check.told("w99;g99;p20,99,1;");
        for (int turn = 0; turn < 5; turn++) {
            y.minutes(24);
        }
        Check.due("30: the longest", y.inches(0), 9999);
    }

    private static void windDue(AntBand x, int[] asked, long above, long below) {
        String call = "31: wind(" + asked[0] + ", " + asked[1] + ", " + asked[2] + ")";
        Check.due(call + " above", x.wind(asked[0], asked[1], asked[2], 0), above);
        Check.due(call + " below", x.wind(asked[0], asked[1], asked[2], 1), below);
    }

    private static void winds() {
        AntBand none = new AntBand();
        Check.due("31: no WALL", none.wind(0, 0, 0, 0), Check.BAD);
        AntBand x = Check.told("w10;g0;p5,0,1;b5,0,1;t10,0,2;p1,0,1;");
        windDue(x, new int[] {0, 0, 5}, 0, 1);
        windDue(x, new int[] {0, 1, 5}, 0, 1);
        windDue(x, new int[] {0, 2, 5}, 1, 4);
        windDue(x, new int[] {0, 3, 5}, 1, 2);
        windDue(x, new int[] {0, 2, 4}, 9, 25);
        windDue(x, new int[] {0, 2, 0}, 1, 1);
        windDue(x, new int[] {0, 8, 10}, 0, 1);
        windDue(x, new int[] {0, 8, 9}, 18689527, 100000000);
        windDue(x, new int[] {1, 1, 3}, 7, 10);
        windDue(x, new int[] {1, 2, 3}, 91, 100);
        windDue(x, new int[] {2, 1, 0}, 0, 1);
        windDue(x, new int[] {2, 2, 3}, 7, 10);
        windDue(x, new int[] {2, 3, 3}, 7, 10);
        windDue(x, new int[] {2, 4, 3}, 91, 100);
        Check.due("31: n -1", x.wind(0, -1, 0, 0), Check.BAD);
        Check.due("31: n 9", x.wind(0, 9, 0, 0), Check.BAD);
        Check.due("31: p -1", x.wind(0, 0, -1, 0), Check.BAD);
        Check.due("31: p 11", x.wind(0, 0, 11, 0), Check.BAD);
        Check.due("31: what 2", x.wind(0, 0, 0, 2), Check.BAD);
        Check.due("31: what -1", x.wind(0, 0, 0, -1), Check.BAD);
        Check.due("31: ANT 4", x.wind(4, 0, 0, 0), Check.BAD);
        Check.due("31: ANT -1", x.wind(-1, 0, 0, 0), Check.BAD);
        x.minutes(1);
        windDue(x, new int[] {1, 0, 10}, 1, 1);
        windDue(x, new int[] {1, 8, 10}, 1, 1);
        windDue(x, new int[] {0, 1, 1}, 9, 10);
    }

    private static void draws() {
        AntBand none = new AntBand();
        Check.due("32: no WALL", none.drawn(0, 1, 0), Check.STATE);
        Check.due("32: no WALL, ahead of BAD", none.drawn(-1, 0, 2), Check.STATE);
        // X by SEED 1: 16807, 282475249, 1622650073, 984943658, 1144108930, 470211272
        AntBand x = Check.told("w40;g8;g2;p20,80,1;b20,20,1;");
        Check.due("32: none yet", x.drawn(0, 1, 0), 0);
        Check.due("32: LENGTH", x.drawn(0, 1, 1), 40);
        // 16807 leaves 1 by 2: the second one stays, the first ARRIVES
        Check.due("32: one", x.drawn(1, 1, 0), 1);
        Check.due("32: LENGTH", x.drawn(1, 1, 1), 48);
        Check.due("32: the second stays yet", x.drawn(3, 1, 0), 1);
        Check.due("32: both", x.drawn(4, 1, 0), 2);
        Check.due("32: LENGTH", x.drawn(4, 1, 1), 60);
        Check.due("32: LENGTH", x.drawn(5, 1, 1), 68);
        // 470211272 by 4 leaves 0: let go to 34, then 2 more
        Check.due("32: let go", x.drawn(6, 1, 1), 36);
        Check.due("32: n -1", x.drawn(-1, 1, 0), Check.BAD);
        Check.due("32: n 100", x.drawn(100, 1, 0), Check.BAD);
        Check.due("32: SEED 0", x.drawn(1, 0, 0), Check.BAD);
        Check.due("32: SEED 1000000", x.drawn(1, 1000000, 0), Check.BAD);
        Check.due("32: what 2", x.drawn(1, 1, 2), Check.BAD);
        Check.due("32: what -1", x.drawn(1, 1, -1), Check.BAD);
        AntBand y = Check.told("w1;g0;p1,0,1;");
        Check.due("32: the only one never goes", y.drawn(99, 999999, 0), 0);
        y.minutes(1);
        Check.due("32: it ARRIVED already", y.drawn(99, 999999, 0), 1);
    }

    private static void images() {
        AntBand none = new AntBand();
        Check.due("33: no WALL", none.image(0), Check.STATE);
        Check.due("33: BAD ahead of STATE", none.image(2), Check.BAD);
        Check.due("34: none was kept", none.restore(1), Check.STATE);
        Check.due("34: BAD ahead of STATE", none.restore(-1), Check.BAD);
        AntBand x = Check.told(FIVE);
        x.minutes(2);
        Check.due("33: image", x.image(0), 1);
        Check.due("33: -1", x.image(-1), Check.BAD);
        Check.due("33: ACTS stay", x.count(6), 2);
        Check.due("34: none was kept", x.restore(1), Check.STATE);
        Check.due("34: STATE leaves ACTS", x.count(6), 2);
        x.pull(0, 77);
        x.step(1, 20);
        x.place(1, 5);
        x.minutes(3);
        Check.due("33: the other one", x.image(1), 1);
        Check.due("34: restore", x.restore(0), 1);
        Check.due("34: no ACT can be undone", x.undo(), Check.STATE);
        Check.due("34: ACTS", x.count(6), 0);
        Check.due("34: MINUTE", x.count(3), 2);
        Check.due("34: LENGTH", x.count(4), 20);
        Check.due("34: PULL", x.pulls(0), 10);
        Check.due("34: STEP", x.ant(1, 0), 3);
        Check.due("34: PART", x.ant(1, 2), 350000);
        Check.due("34: ARRIVED", x.count(5), 4);
        x.minutes(1);
        Check.due("34: again, and the image stayed as it was", x.restore(0), 1);
        Check.due("34: MINUTE", x.count(3), 2);
        Check.read(x, "w5;g1;b2,9,1;");
        Check.due("34: behind another WALL", x.restore(1), 1);
        Check.due("34: ANTS", x.count(2), 5);
        Check.due("34: MINUTE", x.count(3), 5);
        Check.due("34: PULL", x.pulls(0), 77);
        Check.due("34: 2", x.restore(2), Check.BAD);
        Check.due("33: kept anew", x.image(0), 1);
        x.letGo();
        x.restore(0);
        Check.due("34: MINUTE", x.count(3), 5);
    }

    private static void nothingChanges() {
        AntBand x = Check.told("w10;g9;g0;g5;p4,0,1;t1,0,2;q1,30,1;u1,90,1;");
        x.minutes(2);
        Check.fill(x, 0, 1, 2, 3);
        long before = state(x);
        for (int ant = 0; ant < 4; ant++) {
            x.ahead(ant, 99);
            x.arrives(ant);
            x.meet(ant, (ant + 1) % 4);
            x.fast(ant, 50);
            x.pullFor(ant, 50);
            x.order(ant, 0, -1);
            x.order(ant, 1, -1);
            x.half(ant);
            x.rest(ant, 50);
            x.passed(ant, 50);
            x.who(ant, 0, 0, 0, 3);
            x.who(ant, 1, 0, 0, 3);
            x.who(ant, 2, 0, 0, 3);
            x.wind(ant, 8, 5, 0);
        }
        x.band(99, 0);
        x.leads(99);
        x.which(0, 0, 3);
        x.drawn(99, 5, 0);
        Check.due("17 to 32: nothing changes", state(x), before);
    }

    private static long state(AntBand x) {
        long all = 7;
        for (int what = 0; what <= 7; what++) {
            all = all * 31 + x.count(what);
        }
        for (int ant = 0; ant < x.count(2); ant++) {
            for (int what = 0; what <= 5; what++) {
                all = all * 31 + x.ant(ant, what);
            }
        }
        for (int pull = 0; pull < x.count(1); pull++) {
            all = all * 31 + x.pulls(pull);
        }
        return all;
    }
}
