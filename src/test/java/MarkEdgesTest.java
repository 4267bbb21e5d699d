/** '======== 3', rows of marks, WIND and WALKS (promises 28, 29, 31, 32): 1 and 12 marks, each end of n, p and SEED. */
public final class MarkEdgesTest {
    private static final int ALL_KINDS = 62, ALL_STEPS = 0x1FFFFE, ALL_RESTS = 1022;

    public static void main(String[] args) {
        oneMarkAndTwelve();
        marksWithinARow();
        kindsAtTheirEnds();
        stepsAtTheirEnds();
        restsAtTheirEnds();
        hundredthsAreCut();
        marksFromNowOn();
        marksOfOneThatArrived();
        marksOfEachLane();
        antsAtTheirEnds();
        windByNone();
        windByAll();
        windAtItsEnds();
        windInLowestTerms();
        drawnAtTheirEnds();
        drawnByTheirSeed();
        Check.end("MarkEdgesTest");
    }

    /** A plain one on 50 inches: 2 hundredths a MINUTE. */
    private static AntBand onFifty(int marks) {
        AntBand x = Check.told("w50;g0;p1,10,1;p2,10,1;");
        int[] row = new int[marks];
        for (int m = 0; m < marks; m++) {
            row[m] = 12 + 2 * m;
        }
        Check.fill(x, 0, row);
        return x;
    }

    private static void oneMarkAndTwelve() {
        for (int n = 1; n <= 12; n++) {
            AntBand x = onFifty(12);
            Check.due("29: " + n + " marks", x.which(0, 0, n), 1);
            Check.due("28: KINDS by " + n, x.who(0, 0, 0, 0, n), 1 << 1);
            Check.due("28: STEPS by " + n, x.who(0, 1, 0, 0, n), 1 << 1);
            Check.due("28: RESTS by " + n, x.who(0, 2, 0, 0, n), ALL_RESTS);
            x.set(0, n - 1, 99);
            Check.due("29: the last of " + n + " is another", x.which(0, 0, n), 0);
            Check.due("28: the last of " + n + " is another", x.who(0, 1, 0, 0, n), 0);
            Check.due("28: the last of " + n + " is another", x.who(0, 2, 0, 0, n), 0);
            Check.due("28: the last of " + n + " is another", x.who(0, 0, 0, 0, n), 0);
            if (n > 1) {
                Check.due("29: but one less is so", x.which(0, 0, n - 1), 1);
            }
        }
        AntBand x = onFifty(14);
        Check.due("29: 13", x.which(0, 0, 13), Check.BAD);
        Check.due("28: 13", x.who(0, 0, 0, 0, 13), Check.BAD);
        Check.due("29: 0", x.which(0, 0, 0), Check.BAD);
        Check.due("28: 0", x.who(0, 0, 0, 0, 0), Check.BAD);
    }

    private static void marksWithinARow() {
        AntBand x = Check.told("w50;g0;p1,10,1;");
        x.row(0, 2, 40);
        for (int m = 0; m < 12; m++) {
            x.set(0, 28 + m, 12 + 2 * m);
        }
        Check.due("29: the last 12 of 40", x.which(0, 28, 12), 1);
        Check.due("28: the last 12 of 40", x.who(0, 1, 0, 28, 12), 2);
        Check.due("29: from one ahead", x.which(0, 27, 12), 0);
        Check.due("29: from one behind", x.which(0, 29, 12), Check.PLACE);
        Check.due("28: from one behind", x.who(0, 1, 0, 29, 12), Check.PLACE);
        Check.due("29: the last one alone", x.which(0, 39, 1), 0);
        x.place(0, 32);
        Check.due("29: the last one alone", x.which(0, 39, 1), 1);
        Check.due("29: none behind it", x.which(0, 40, 1), Check.PLACE);
    }

    private static void kindsAtTheirEnds() {
        AntBand x = Check.told("w50;g0;t1,50,1;p1,10,1;b1,10,1;");
        Check.fill(x, 0, 52, 50, 57, 48, 12, 8);
        // in MINUTE 0 a tired one rests, a quick one has five tenths behind it
        Check.due("28: PLAIN", x.who(0, 0, 0, 0, 1), 1 << 1);
        Check.due("28: TIRED", x.who(0, 0, 0, 1, 1), 1 << 2);
        Check.due("28: QUICK: 5 more", x.who(0, 0, 0, 2, 1), 0);
        Check.due("28: BACK and TURNER", x.who(0, 0, 0, 3, 1), 1 << 4 | 1 << 5);
        Check.due("28: PLAIN, and the quick one goes 2", x.who(1, 0, 0, 4, 1), 1 << 1);
        Check.due("28: whatever it is told as", x.who(2, 0, 0, 4, 1), 1 << 1);
        Check.due("28: BACK and TURNER", x.who(2, 0, 0, 5, 1), 1 << 4 | 1 << 5);
        x.set(0, 0, 62);
        Check.due("28: QUICK", x.who(0, 0, 0, 0, 1), 1 << 3);
        x.place(0, 9);
        x.set(0, 0, 11);
        Check.due("28: PLAIN and QUICK below a tenth", x.who(0, 0, 0, 0, 1), 1 << 1 | 1 << 3);
        for (int m = 0; m < 10; m++) {
            x.minutes(1);
        }
        x.place(0, 50);
        x.set(0, 0, 52);
        // from MINUTE 10 on a turner with REST 1 goes to the thumb
        Check.due("28: PLAIN and TURNER", x.who(0, 0, 0, 0, 1), 1 << 1 | 1 << 5);
        x.set(0, 0, 48);
        Check.due("28: BACK alone", x.who(0, 0, 0, 0, 1), 1 << 4);
    }

    private static void stepsAtTheirEnds() {
        AntBand x = Check.told("w50;g0;p7,10,1;t7,10,1;b20,40,1;");
        x.row(0, 0, 1);
        for (int hundredth = 10; hundredth <= 52; hundredth++) {
            x.set(0, 0, hundredth);
            boolean even = hundredth % 2 == 0;
            int step = (hundredth - 10) / 2;
            int due = even && step >= 1 && step <= 20 ? 1 << step : 0;
            Check.due("28: STEPS to " + hundredth, x.who(0, 1, 0, 0, 1), due);
        }
        x.set(0, 0, 10);
        Check.due("28: resting by every STEP", x.who(1, 1, 0, 0, 1), ALL_STEPS);
        x.set(0, 0, 0);
        Check.due("28: at the nail by 20 alone", x.who(2, 1, 0, 0, 1), 1 << 20);
        x.letGo();
        Check.due("28: at the nail by 10 to 20", x.who(2, 1, 0, 0, 1), 0x1FFC00);
        x.set(0, 0, 36);
        Check.due("28: by 1", x.who(2, 1, 0, 0, 1), 1 << 1);
        x.set(0, 0, 100);
        x.place(0, 96);
        Check.due("28: at the thumb by every STEP", x.who(0, 1, 0, 0, 1), ALL_STEPS);
    }

    private static void restsAtTheirEnds() {
        AntBand x = Check.told("w50;g0;t1,10,4;u1,50,4;");
        x.row(0, 0, 12);
        // goes in MINUTES 1 to 8, rests at 0 and 9
        int[] nine = {10, 12, 14, 16, 18, 20, 22, 24, 26, 26, 28, 30};
        for (int i = 0; i < 12; i++) {
            x.set(0, i, nine[i]);
        }
        Check.due("28: every REST rests at 0", x.who(0, 2, 0, 0, 1), ALL_RESTS);
        for (int n = 2; n <= 9; n++) {
            Check.due("28: RESTS by " + n + " marks", x.who(0, 2, 0, 0, n), ALL_RESTS >> n << n);
        }
        Check.due("28: REST 9 alone", x.who(0, 2, 0, 0, 12), 1 << 9);
        for (int i = 0; i < 12; i++) {
            x.set(0, i, 10);
        }
        Check.due("28: REST 1 alone", x.who(0, 2, 0, 0, 12), 1 << 1);
        for (int i = 0; i < 12; i++) {
            x.set(0, i, i < 10 ? 48 - 2 * i : 32 + 2 * (i - 10));
        }
        Check.due("28: ahead of each turn", x.who(1, 2, 0, 0, 10), ALL_RESTS);
        Check.due("28: one that turns at 10", x.who(1, 2, 0, 0, 11), 1 << 1);
        x.set(0, 10, 28);
        Check.due("28: those that do not", x.who(1, 2, 0, 0, 11), ALL_RESTS - 2);
    }

    private static void hundredthsAreCut() {
        AntBand x = Check.told("w99;g0;p1,0,1;");
        Check.fill(x, 0, 1, 2, 98, 99, 100);
        Check.due("29: 10101 is in hundredth 1", x.which(0, 0, 1), 1);
        Check.due("29: 20202 is in hundredth 2", x.which(0, 0, 2), 1);
        for (int m = 0; m < 98; m++) {
            x.minutes(1);
        }
        Check.due("29: 999999 is in hundredth 99", x.which(0, 3, 1), 1);
        Check.due("29: not in 100", x.which(0, 4, 1), 0);
        Check.due("29: then it is at 100", x.which(0, 3, 2), 1);
        AntBand near = Check.told("w3;g3;b1,50,1;");
        Check.fill(near, 0, 16, 0, 0, 0);
        Check.due("29: 166667, a millionth, 0", near.which(0, 0, 4), 1);
    }

    private static void marksFromNowOn() {
        AntBand x = onFifty(12);
        x.minutes(1);
        Check.due("29: behind each MINUTE from now on", x.which(0, 0, 1), 0);
        Check.due("29: behind each MINUTE from now on", x.which(0, 1, 11), 1);
        Check.due("28: where it is now does not count", x.who(0, 1, 0, 1, 1), 1 << 1);
        AntBand pulled = Check.told("w50;g50;g0;p1,10,1;");
        Check.fill(pulled, 0, 12, 13, 14, 14);
        Check.due("29: on a band that is pulled", pulled.which(0, 0, 4), 1);
    }

    private static void marksOfOneThatArrived() {
        AntBand x = Check.told("w1;g9;p1,0,1;b1,0,1;t1,0,1;");
        x.minutes(1);
        x.row(0, 0, 12);
        for (int ant = 0; ant < 2; ant++) {
            for (int i = 0; i < 12; i++) {
                x.set(0, i, ant == 0 ? 100 : 0);
            }
            Check.due("28: KINDS", x.who(ant, 0, 0, 0, 12), ALL_KINDS);
            Check.due("28: STEPS", x.who(ant, 1, 0, 0, 12), ALL_STEPS);
            Check.due("28: RESTS", x.who(ant, 2, 0, 0, 12), ALL_RESTS);
            Check.due("29: ANTS", x.which(0, 0, 12), ant == 0 ? 1 : 2 + 4);
            x.set(0, 11, 50);
            Check.due("28: elsewhere at last", x.who(ant, 0, 0, 0, 12), 0);
        }
    }

    private static void marksOfEachLane() {
        for (int lane = 0; lane <= 2; lane++) {
            AntBand x = Check.told("w50;g0;p1,10,1;");
            x.row(6, lane, 3);
            for (int i = 0; i < 3; i++) {
                x.set(6, i, 12 + 2 * i);
            }
            Check.due("29: LANE " + lane, x.which(6, 0, 3), 1);
            Check.due("28: LANE " + lane, x.who(0, 1, 6, 0, 3), 2);
            x.set(6, 2, 16 + 256);
            Check.due("29: 256 more in LANE " + lane, x.which(6, 0, 3), lane == 0 ? 1 : 0);
            x.set(6, 2, 16 + 65536);
            Check.due("29: 65536 more in LANE " + lane, x.which(6, 0, 3), lane == 2 ? 0 : 1);
            x.set(6, 2, -1);
            Check.due("29: below 0 is nowhere", x.which(6, 0, 3), 0);
            x.set(6, 2, 101);
            Check.due("29: above 100 is nowhere", x.which(6, 0, 3), 0);
        }
    }

    private static void antsAtTheirEnds() {
        AntBand x = Check.told("w50;g0;p1,10,1;b1,14,1;t1,12,1;q1,9,1;u1,14,9;p1,10,1;");
        Check.fill(x, 0, 12, 11);
        Check.due("29: all but the fourth", x.which(0, 0, 1), 63 - 8);
        Check.due("29: the fourth", x.which(0, 1, 1), 8);
        Check.due("28: the last of six", x.who(5, 1, 0, 0, 1), 2);
        Check.due("28: none behind it", x.who(6, 1, 0, 0, 1), Check.BAD);
    }

    private static void windDue(AntBand x, String name, int[] asked, long above, long below) {
        String call = "31: " + name + ", wind(" + asked[0] + ", " + asked[1] + ", " + asked[2] + ")";
        Check.due(call + " above", x.wind(asked[0], asked[1], asked[2], 0), above);
        Check.due(call + " below", x.wind(asked[0], asked[1], asked[2], 1), below);
    }

    private static void windByNone() {
        AntBand x = Check.told("w8;g0;p1,0,1;b1,99,1;");
        for (int n = 0; n <= 8; n++) {
            windDue(x, "by 0 of 10", new int[] {0, n, 0}, n == 8 ? 1 : 0, 1);
            windDue(x, "by 0 of 10", new int[] {1, n, 0}, n == 8 ? 1 : 0, 1);
        }
    }

    private static void windByAll() {
        AntBand x = Check.told("w1;g0;p1,0,1;b1,0,1;");
        for (int n = 0; n <= 8; n++) {
            windDue(x, "by 10 of 10", new int[] {0, n, 10}, 0, 1);
            windDue(x, "by 10 of 10", new int[] {1, n, 10}, 0, 1);
        }
        x.minutes(1);
        for (int n = 0; n <= 8; n++) {
            windDue(x, "it ARRIVED", new int[] {0, n, 10}, 1, 1);
            windDue(x, "it ARRIVED", new int[] {1, n, 5}, 1, 1);
        }
    }

    private static void windAtItsEnds() {
        AntBand x = Check.told("w8;g0;p1,0,1;p4,0,1;t8,0,8;");
        windDue(x, "all of 8", new int[] {0, 8, 1}, 43046721, 100000000);
        windDue(x, "all of 8", new int[] {0, 8, 9}, 1, 100000000);
        windDue(x, "7 are too few", new int[] {0, 7, 1}, 0, 1);
        windDue(x, "two of 8", new int[] {1, 8, 1}, 99999927, 100000000);
        windDue(x, "two of 8", new int[] {1, 8, 9}, 18689527, 100000000);
        windDue(x, "none of 0", new int[] {1, 0, 9}, 0, 1);
        windDue(x, "one of 1 is too few", new int[] {1, 1, 9}, 0, 1);
        // it rests in MINUTE 0, so there are 7 to go in
        windDue(x, "one of 7", new int[] {2, 8, 9}, 5217031, 10000000);
        Check.due("31: 9", x.wind(0, 9, 0, 0), Check.BAD);
        Check.due("31: -1", x.wind(0, -1, 0, 0), Check.BAD);
        Check.due("31: 11 of 10", x.wind(0, 8, 11, 0), Check.BAD);
        Check.due("31: -1 of 10", x.wind(0, 8, -1, 0), Check.BAD);
    }

    private static void windInLowestTerms() {
        AntBand x = Check.told("w1;g0;p1,0,1;");
        long[] above = {1, 9, 4, 7, 3, 1, 2, 3, 1, 1, 0};
        long[] below = {1, 10, 5, 10, 5, 2, 5, 10, 5, 10, 1};
        for (int p = 0; p <= 10; p++) {
            windDue(x, "one MINUTE", new int[] {0, 1, p}, above[p], below[p]);
        }
        windDue(x, "one of 8 by halves", new int[] {0, 8, 5}, 255, 256);
        windDue(x, "one of 8 by fifths", new int[] {0, 8, 2}, 390624, 390625);
    }

    private static void drawnAtTheirEnds() {
        AntBand x = Check.told("w51;g75;g80;b3,62,7;b2,21,9;t5,68,1;");
        int[][] due = {{0, 1, 0, 51}, {98, 1, 1, 415}, {99, 1, 2, 490}, {98, 999999, 1, 336}, {99, 999999, 2, 411}};
        for (int[] row : due) {
            String call = "32: " + row[0] + " MINUTES by SEED " + row[1];
            Check.due(call, x.drawn(row[0], row[1], 0), row[2]);
            Check.due(call + ", LENGTH", x.drawn(row[0], row[1], 1), row[3]);
        }
        Check.due("32: 100", x.drawn(100, 1, 0), Check.BAD);
        Check.due("32: -1", x.drawn(-1, 1, 0), Check.BAD);
        Check.due("32: SEED 0", x.drawn(99, 0, 0), Check.BAD);
        Check.due("32: SEED 1000000", x.drawn(99, 1000000, 0), Check.BAD);
    }

    private static void drawnByTheirSeed() {
        AntBand x = Check.told("w40;g8;g3;p2,0,1;t1,5,2;b1,70,1;q1,3,1;u2,95,2;p1,0,1;");
        int[] minutes = {0, 1, 2, 5, 97, 98, 99};
        int[] seeds = {1, 2, 999998, 999999};
        int[][] lengths = {
            {40, 48, 51, 70, 26, 29, 37}, {40, 48, 51, 40, 41, 44, 30}, {40, 48, 51, 70, 30, 33, 24},
            {40, 28, 17, 22, 38, 22, 30},
        };
        for (int s = 0; s < seeds.length; s++) {
            for (int m = 0; m < minutes.length; m++) {
                String call = "32: " + minutes[m] + " MINUTES by SEED " + seeds[s];
                Check.due(call, x.drawn(minutes[m], seeds[s], 1), lengths[s][m]);
                Check.due(call, x.drawn(minutes[m], seeds[s], 0), minutes[m] > 90 ? 6 : 0);
            }
        }
        // X is 16807 times 4 at first: let go, and the only ANT never goes
        AntBand one = Check.told("w1;g0;p20,0,1;");
        Check.due("32: 1 inch at least", one.drawn(1, 4, 1), 1);
        Check.due("32: the only one stays", one.drawn(99, 4, 0), 0);
    }
}
