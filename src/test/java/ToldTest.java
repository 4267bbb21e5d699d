/** Promises 6 to 9: feed, wall, fault, undo. */
public final class ToldTest {
    private static final String GOOD = "w10;g2;g0;p1,0,2;";

    public static void main(String[] args) {
        bytesAreFed();
        wallsAreRead();
        faultsOfPlace();
        faultsOfNumbers();
        faultsOfRoom();
        faultsLeaveAllElse();
        actsAreUndone();
        Check.end("ToldTest");
    }

    private static void bytesAreFed() {
        AntBand x = new AntBand();
        Check.due("6: -1", x.feed(-1), Check.BAD);
        Check.due("6: 256", x.feed(256), Check.BAD);
        Check.due("6: least", x.feed(Integer.MIN_VALUE), Check.BAD);
        Check.due("6: 0", x.feed(0), 1);
        Check.due("6: 255", x.feed(255), 2);
        for (int many = 3; many <= 120; many++) {
            Check.due("6: feed", x.feed('a'), many);
        }
        Check.due("6: FULL", x.feed('a'), Check.FULL);
        Check.due("6: BAD ahead of FULL", x.feed(256), Check.BAD);
        Check.due("6: count(7)", x.count(7), 120);
        Check.due("6: FULL leaves what is read", x.wall(), -1000100);
        Check.due("6: empty then", x.count(7), 0);
        Check.due("6: room again", x.feed('w'), 1);
    }

    private static void wallsAreRead() {
        AntBand x = new AntBand();
        Check.due("7: wall", Check.read(x, "w09;g00;g99;t20,99,9;u01,00,01;"), 2);
        Check.due("7: fault", x.fault(), 0);
        Check.due("7: LENGTH", x.count(4), 9);
        Check.due("7: PULLS", x.count(1), 2);
        Check.due("7: pull 0", x.pulls(0), 0);
        Check.due("7: pull 1", x.pulls(1), 99);
        Check.due("7: ant 0", x.ant(0, 0) * 10000 + x.ant(0, 5) * 100 + x.ant(0, 1), 209909);
        Check.due("7: ant 1", x.ant(1, 0) * 10000 + x.ant(1, 5) * 100 + x.ant(1, 1), 10001);
        Check.due("7: kinds", x.kind(0) * 10 + x.kind(1), 25);
        Check.due("7: PART", x.ant(0, 2), 990000);
        x.minutes(3);
        x.letGo();
        Check.due("7: another stands in its place", Check.read(x, "w5;g1;b2,9,1;"), 1);
        Check.due("7: ANTS", x.count(2), 1);
        Check.due("7: PULLS", x.count(1), 1);
        Check.due("7: MINUTE", x.count(3), 0);
        Check.due("7: LENGTH", x.count(4), 5);
        Check.due("7: ACTS", x.count(6), 0);
        Check.due("7: no undo", x.undo(), Check.STATE);
        Check.due("7: pulls(1) is gone", x.pulls(1), Check.NONE);
        Check.due("7: ant 1 is gone", x.ant(1, 0), Check.BAD);
        Check.due("7: all sorts", Check.read(x, "w1;g1;p1,0,1;t1,0,1;q1,0,1;b1,0,1;u1,0,1;"), 5);
        for (int ant = 0; ant < 5; ant++) {
            Check.due("7: kind", x.kind(ant), ant + 1);
        }
        Check.read(x, "w1;g1;p20,0,1;b20,0,1;");
        Check.due("18: both ARRIVED", x.band(1, 1), 3);
        Check.due("7: read behind that", Check.read(x, "w9;g1;p1,0,1;t1,0,1;"), 2);
        Check.due("7: none ARRIVED", x.count(5), 0);
        Check.due("7: as many as there is room for",
                Check.read(x, "w99;g1;g2;g3;g4;g5;p1,0,1;p1,0,1;p1,0,1;p1,0,1;p1,0,1;p1,0,1;"), 6);
    }

    private static void fault(String text, int place, int number) {
        AntBand x = new AntBand();
        Check.due("7: wall of " + text, Check.read(x, text), -1000100 - place);
        Check.due("8: fault of " + text, x.fault(), number);
        Check.due("7: no WALL by " + text, x.count(4) + x.count(2) + x.count(7), 0);
    }

    private static void faultsOfPlace() {
        for (int end = 0; end < GOOD.length(); end++) {
            fault(GOOD.substring(0, end), end, 1);
        }
        fault("x10;g2;p1,0,2;", 0, 1);
        fault("W10;g2;p1,0,2;", 0, 1);
        fault("g2;p1,0,2;", 0, 1);
        fault("w;g2;p1,0,2;", 1, 1);
        fault("w 10;g2;p1,0,2;", 1, 1);
        fault("w10,g2;p1,0,2;", 3, 1);
        fault("w10;p1,0,2;", 4, 1);
        fault("w10;w10;g2;p1,0,2;", 4, 1);
        fault("w10;g2;w10;p1,0,2;", 7, 1);
        fault("w10;g-1;p1,0,2;", 5, 1);
        fault("w10;g;p1,0,2;", 5, 1);
        fault("w1;g1g2;p1,0,1;", 5, 1);
        fault("w1;g1p1,0,1;", 5, 1);
        fault("w10;g2;p1;0,2;", 9, 1);
        fault("w10;g2;p1,,2;", 10, 1);
        fault("w10;g2;p1,0;2;", 11, 1);
        fault("w10;g2;p1,0,2,", 13, 1);
        fault("w10;g2;p1,0,2;g3;", 14, 1);
        fault("w10;g2;p1,0,2; ", 14, 1);
        fault("w10;g2;p1,0,2;;", 14, 1);
        fault("w10;g2;x1,0,2;", 7, 1);
        fault("w10;g2;p1,0,2;12", 14, 1);
        fault("w100;g2;p1,0,2;", 1, 1);
        fault("w000;g2;p1,0,2;", 1, 1);
        fault("w1;g0001;p1,0,2;", 4, 1);
        fault("w1;g1;p001,0,2;", 7, 1);
        fault("w1;g1;p1,000,2;", 9, 1);
        fault("w1;g1;p1,0,002;", 11, 1);
        fault("w1;g1;p1,0,123", 11, 1);
        fault("w1" + (char) 255 + "g1;p1,0,1;", 2, 1);
        fault("w1;g1;p1,0,1;p1,0,1;p1,0,1;p1,0,1;p1,0,1;p1,0,1;x", 48, 1);
        fault("w1;g1;p1,0,1;p1,0,1;p1,0,1;p1,0,1;p1,0,1;p1,0,1;g", 48, 1);
    }

    private static void faultsOfNumbers() {
        fault("w0;g2;p1,0,2;", 1, 2);
        fault("w00;", 1, 2);
        fault("w0", 1, 2);
        fault("w1;g1;p0,0,2;", 7, 2);
        fault("w1;g1;p21,0,2;", 7, 2);
        fault("w1;g1;p00,0,0;", 7, 2);
        fault("w1;g1;p1,0,0;", 11, 2);
        fault("w1;g1;p1,0,10;", 11, 2);
        fault("w1;g1;p1,99,00;", 12, 2);
        fault("w0;x", 1, 2);
    }

    private static void faultsOfRoom() {
        fault("w1;g1;g1;g1;g1;g1;g1;p1,0,1;", 18, 3);
        fault("w1;g1;g1;g1;g1;g1;g", 18, 3);
        fault("w1;g1;p1,0,1;p1,0,1;p1,0,1;p1,0,1;p1,0,1;p1,0,1;t", 48, 3);
        fault("w1;g1;p1,0,1;p1,0,1;p1,0,1;p1,0,1;p1,0,1;p1,0,1;q0,0,0;", 48, 3);
    }

    private static void faultsLeaveAllElse() {
        AntBand x = Check.told("w10;g2;g0;p1,0,2;q3,50,1;");
        x.minutes(2);
        int part = x.ant(0, 2);
        Check.due("7: a FAULT", Check.read(x, "w5;g1;b"), -1000107);
        Check.due("7: all stays: LENGTH", x.count(4), 12);
        Check.due("7: all stays: MINUTE", x.count(3), 2);
        Check.due("7: all stays: PART", x.ant(0, 2), part);
        Check.due("7: all stays: ACTS", x.count(6), 2);
        Check.due("7: the tape is empty", x.count(7), 0);
        Check.due("8: fault", x.fault(), 1);
        Check.due("7: a good one", Check.read(x, GOOD), 1);
        Check.due("8: the latest FAULT, yet", x.fault(), 1);
        Check.read(x, "w0;");
        Check.due("8: the latest FAULT", x.fault(), 2);
        Check.due("7: status stays", x.status(), 0);
    }

    private static void actsAreUndone() {
        AntBand x = Check.told("w10;g2;g0;p1,0,2;q3,10,1;b1,90,1;");
        Check.due("9: none", x.undo(), Check.STATE);
        x.minutes(2);
        x.pull(0, 50);
        x.letGo();
        x.place(0, 77);
        x.step(0, 20);
        Check.due("9: six", x.count(6), 6);
        Check.due("9: step", x.undo(), 5);
        Check.due("9: STEP", x.ant(0, 0), 1);
        Check.due("9: PART is yet elsewhere", x.ant(0, 2), 770000);
        Check.due("9: place", x.undo(), 4);
        Check.due("9: PART", x.ant(0, 2), 183333);
        Check.due("9: LENGTH is yet half", x.count(4), 6);
        Check.due("9: letGo", x.undo(), 3);
        Check.due("9: LENGTH", x.count(4), 12);
        Check.due("9: PULL is yet another", x.pulls(0), 50);
        Check.due("9: pull", x.undo(), 2);
        Check.due("9: PULL", x.pulls(0), 2);
        Check.due("9: ARRIVED yet", x.count(5), 2);
        Check.due("9: a minute", x.undo(), 1);
        Check.due("9: MINUTE", x.count(3), 1);
        Check.due("9: ARRIVED", x.count(5), 0);
        Check.due("9: LENGTH", x.count(4), 12);
        Check.due("9: a minute", x.undo(), 0);
        Check.due("9: LENGTH", x.count(4), 10);
        Check.due("9: PART", x.ant(1, 2), 100000);
        Check.due("9: none", x.undo(), Check.STATE);
        onlyTheLatestAreKept();
    }

    private static void onlyTheLatestAreKept() {
        AntBand x = Check.told("w1;g1;t1,0,1;");
        x.minutes(20);
        Check.due("9: twenty", x.count(6), 20);
        x.minutes(20);
        Check.due("9: 24 at most", x.count(6), 24);
        for (int left = 23; left >= 0; left--) {
            Check.due("9: undo", x.undo(), left);
            Check.due("9: MINUTE", x.count(3), 16 + left);
            Check.due("9: LENGTH", x.count(4), 17 + left);
        }
        Check.due("9: the older are forgotten", x.undo(), Check.STATE);
        x.minutes(3);
        Check.due("9: kept anew", x.undo(), 2);
        Check.due("9: MINUTE", x.count(3), 18);
        x.minutes(24);
        x.place(0, 5);
        Check.due("9: 24 at most", x.count(6), 24);
        Check.due("9: undo", x.undo(), 23);
        Check.due("9: PART", x.ant(0, 2), 0);
    }
}
