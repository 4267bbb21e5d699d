import java.util.function.Consumer;

/** '======== 3' and promises 17 to 32: each range of MINUTES at its ends, NONE just beyond, of several the first. */
public final class ForetoldEdgesTest {
    /** 10101 a MINUTE: 999999 behind 99, there behind 100. */
    private static final String SLOW = "w99;g0;p1,0,1;";

    public static void main(String[] args) {
        aheadByNoneAndBy99();
        bandByNoneAndBy99();
        leadsByNoneAndBy99();
        arrivesWithin200();
        meetsWithin200();
        meetsAlikeOrAcross();
        fastAtItsEnds();
        pullAtItsEnds();
        ordersWithin200();
        allOrders();
        ordersOfSeveralTheFirst();
        halfWithin200();
        halfOnBothSides();
        restAtItsEnds();
        passedAtItsEnds();
        inchesAtTheirEnds();
        foretoldAsItIsNow();
        nothingChanges();
        Check.end("ForetoldEdgesTest");
    }

    /** ANTS on a band of so many inches (99 or more), that is pulled by 0 from now on. */
    private static AntBand onBand(int length, String ants) {
        AntBand x = Check.told("w99;g99;" + ants);
        while (x.count(4) + 99 <= length) {
            x.minutes(1);
        }
        x.pull(0, length - x.count(4));
        x.minutes(1);
        x.pull(0, 0);
        Check.due("39: LENGTH", x.count(4), length);
        return x;
    }

    private static void aheadByNoneAndBy99() {
        AntBand x = Check.told(SLOW + "b1,99,1;");
        for (int n = 0; n <= 99; n++) {
            Check.due("17: ahead(0, " + n + ")", x.ahead(0, n), n * 10101);
            Check.due("17: ahead(1, " + n + ")", x.ahead(1, n), Math.max(0, 990000 - n * 10101));
        }
        Check.due("17: 100", x.ahead(0, 100), Check.BAD);
        Check.due("17: -1", x.ahead(0, -1), Check.BAD);
        x.minutes(24);
        Check.due("17: from now on", x.ahead(0, 75), 999999);
        Check.due("17: it ARRIVED then", x.ahead(0, 76), 1000000);
        Check.due("17: and goes no more", x.ahead(0, 99), 1000000);
    }

    private static void bandByNoneAndBy99() {
        AntBand x = Check.told("w1;g1;p1,0,1;");
        Check.due("18: LENGTH behind 0", x.band(0, 0), 1);
        Check.due("18: LENGTH behind 1", x.band(1, 0), 2);
        Check.due("18: LENGTH behind 98", x.band(98, 0), 99);
        Check.due("18: LENGTH behind 99", x.band(99, 0), 100);
        AntBand five = Check.told("w1;g1;g2;g3;g4;g5;p1,0,1;");
        Check.due("18: all PULLS", five.band(5, 0), 16);
        Check.due("18: and the first again", five.band(6, 0), 17);
        five.minutes(4);
        Check.due("18: the last, from MINUTE 4", five.band(1, 0), 16);
        Check.due("18: and the first again", five.band(2, 0), 17);
        AntBand last = Check.told("w99;g0;p1,1,1;b1,99,1;t1,0,1;p1,0,1;q20,99,1;b1,1,1;");
        Check.due("18: ARRIVED behind 0", last.band(0, 1), 0);
        Check.due("18: ARRIVED behind 1", last.band(1, 1), 16 + 32);
        Check.due("18: ARRIVED behind 98", last.band(98, 1), 16 + 32);
        Check.due("18: ARRIVED behind 99", last.band(99, 1), 1 + 2 + 16 + 32);
        last.minutes(1);
        Check.due("18: ARRIVED now", last.band(0, 1), 16 + 32);
        Check.due("39: ARRIVED now", last.count(5), 16 + 32);
        AntBand all = Check.told("w1;g1;p1,0,1;p1,0,1;p1,0,1;p1,0,1;p1,0,1;p1,0,1;");
        Check.due("18: all six", all.band(1, 1), 63);
        AntBand longest = Check.told("w99;g99;t1,0,1;");
        longest.minutes(2);
        Check.due("18: below 9999", longest.band(97, 0), 9900);
        Check.due("18: just 9999", longest.band(98, 0), 9999);
        Check.due("18: 9999 at most", longest.band(99, 0), 9999);
    }

    private static void leadsByNoneAndBy99() {
        AntBand x = Check.told("w99;g0;t1,99,1;p1,0,1;t1,99,1;p1,0,1;");
        Check.due("20: of two the first", x.leads(0), 0);
        Check.due("20: behind 98", x.leads(98), 0);
        Check.due("20: behind 99, of two the first", x.leads(99), 1);
        AntBand y = Check.told("w50;g0;p1,0,1;p1,5,1;t1,7,1;b1,99,1;p1,5,1;p1,5,1;");
        Check.due("20: the fourth now", y.leads(0), 3);
        Check.due("20: at the end the second, of three that ARRIVED", y.leads(49), 1);
        Check.due("20: at the end the first, of four that ARRIVED", y.leads(50), 0);
        AntBand one = Check.told("w1;g0;b1,0,1;");
        Check.due("20: the only one, at 0", one.leads(99), 0);
        AntBand last = Check.told("w99;g0;t1,0,1;t1,1,1;t1,2,1;t1,3,1;t1,4,1;t1,5,1;");
        Check.due("20: the last of six", last.leads(0), 5);
    }

    private static void arrivesWithin200() {
        AntBand x = onBand(202, "p1,0,1;");
        x.place(0, 1);
        Check.due("19: behind 200", x.arrives(0), 200);
        AntBand y = onBand(203, "p1,0,1;");
        y.place(0, 1);
        Check.due("19: behind 201: NONE", y.arrives(0), Check.NONE);
        y.minutes(1);
        Check.due("19: behind 200 now", y.arrives(0), 200);
        AntBand z = Check.told("w1;g0;p1,0,1;b1,0,1;t1,0,1;");
        Check.due("19: behind 1", z.arrives(0), 1);
        Check.due("19: behind 1, from the nail", z.arrives(1), 1);
        Check.due("19: never", z.arrives(2), Check.NONE);
        z.minutes(1);
        Check.due("19: it did", z.arrives(0), 0);
        Check.due("19: it did", z.arrives(1), 0);
    }

    private static void meetsWithin200() {
        AntBand x = onBand(202, "p1,0,1;q20,99,1;");
        x.place(0, 1);
        Check.due("21: behind 200, at the thumb", x.meet(0, 1), 200);
        Check.due("21: behind 200, at the thumb", x.meet(1, 0), 200);
        AntBand y = onBand(203, "p1,0,1;q20,99,1;");
        y.place(0, 1);
        Check.due("21: behind 201: NONE", y.meet(0, 1), Check.NONE);
        Check.due("21: behind 201: NONE", y.meet(1, 0), Check.NONE);
    }

    private static void meetsAlikeOrAcross() {
        AntBand x = Check.told("w10;g0;p1,0,1;b1,20,1;b1,30,1;p1,0,1;t1,10,1;b1,99,1;");
        Check.due("21: alike now", x.meet(0, 3), 0);
        Check.due("21: alike behind 1", x.meet(0, 1), 1);
        Check.due("21: alike behind 1", x.meet(1, 0), 1);
        Check.due("21: across behind 2", x.meet(0, 2), 2);
        Check.due("21: across behind 2", x.meet(2, 0), 2);
        Check.due("21: up to one that rests", x.meet(0, 4), 1);
        Check.due("21: one that comes down", x.meet(5, 4), 9);
        Check.due("21: the last two of six", x.meet(4, 5), 9);
        AntBand apart = Check.told("w99;g0;t1,0,1;t1,1,1;");
        Check.due("21: never", apart.meet(0, 1), Check.NONE);
        AntBand there = Check.told("w1;g0;p1,0,1;b1,0,1;p1,0,1;");
        there.minutes(1);
        Check.due("21: both ARRIVED, alike", there.meet(0, 2), 0);
        Check.due("21: both ARRIVED, apart", there.meet(0, 1), Check.NONE);
    }

    private static void fastAtItsEnds() {
        AntBand x = Check.told("w99;g0;p5,1,1;b9,99,1;");
        Check.due("22: 99 MINUTES", x.fast(0, 99), 1);
        Check.due("22: 98 MINUTES", x.fast(0, 98), 2);
        Check.due("22: 99 MINUTES to the nail", x.fast(1, 99), 1);
        Check.due("22: 98 MINUTES to the nail", x.fast(1, 98), 2);
        Check.due("22: 100", x.fast(0, 100), Check.BAD);
        Check.due("22: 0", x.fast(0, 0), Check.BAD);
        Check.due("22: one MINUTE, not even 20", x.fast(0, 1), Check.NONE);
        for (int length = 1; length <= 22; length++) {
            AntBand y = Check.told("w" + length + ";g9;p3,0,1;");
            Check.due("22: one MINUTE on " + length, y.fast(0, 1), length <= 20 ? length : Check.NONE);
        }
        AntBand quick = Check.told("w99;g0;q9,99,1;");
        Check.due("22: the least of all", quick.fast(0, 1), 1);
        AntBand rests = Check.told("w1;g0;t1,0,2;");
        Check.due("22: it rests in this MINUTE", rests.fast(0, 1), Check.NONE);
        Check.due("22: and goes in the next", rests.fast(0, 2), 1);
    }

    private static void pullAtItsEnds() {
        AntBand x = Check.told("w99;g50;p1,1,1;");
        Check.due("23: 99 MINUTES, by 0 just", x.pullFor(0, 99), 0);
        Check.due("23: 98 MINUTES, by none", x.pullFor(0, 98), Check.NONE);
        Check.due("23: 100", x.pullFor(0, 100), Check.BAD);
        Check.due("23: 0", x.pullFor(0, 0), Check.BAD);
        AntBand y = Check.told("w2;g0;g99;p1,49,1;p1,50,1;");
        // 490000, 500000 more, then 1000000 by 2 and the PULL
        Check.due("23: by 98 just there", y.pullFor(0, 2), 98);
        Check.due("23: by none in one MINUTE", y.pullFor(0, 1), Check.NONE);
        Check.due("23: by 99, there in one MINUTE", y.pullFor(1, 1), 99);
        Check.due("23: by 99", y.pullFor(1, 2), 99);
        AntBand many = Check.told("w2;g0;g99;g50;g1;g2;p1,49,1;");
        Check.due("23: all PULLS are so", many.pullFor(0, 2), 98);
        many.minutes(1);
        Check.due("23: from now on", many.pullFor(0, 1), 99);
    }

    private static void orderIs(String name, AntBand x, int late, int behind, int... pulls) {
        Check.due("24: " + name, x.order(0, late, -1), behind);
        for (int k = 0; k < pulls.length; k++) {
            Check.due("24: " + name + ", PULL " + k, x.order(0, late, k), pulls[k]);
        }
        Check.due("24: " + name + ", no such one", x.order(0, late, pulls.length), Check.NONE);
        Check.due("24: " + name + ", no such one", x.order(0, late, Integer.MAX_VALUE), Check.NONE);
    }

    private static void ordersWithin200() {
        for (int late = 0; late < 2; late++) {
            AntBand x = onBand(202, "p1,0,1;");
            x.place(0, 1);
            orderIs("behind 200", x, late, 200, 0);
            AntBand y = onBand(203, "p1,0,1;");
            y.place(0, 1);
            orderIs("behind 201: NONE", y, late, Check.NONE, 0);
            orderIs("behind 1", Check.told("w1;g9;g8;p1,0,1;"), late, 1, 0, 1);
        }
        AntBand latest = Check.told("w87;g57;g4;g54;t5,72,2;");
        orderIs("latest behind 200", latest, 1, 200, 0, 2, 1);
        orderIs("soonest behind 124, of two the first", latest, 0, 124, 1, 0, 2);
        AntBand never = Check.told("w47;g9;g0;g93;t6,48,3;");
        orderIs("not at all is latest, of two the first", never, 1, Check.NONE, 2, 0, 1);
        orderIs("soonest", never, 0, 36, 1, 0, 2);
        ordersJustAt200();
    }

    /** One order is there behind just 200, the other not at all, which is later yet. */
    private static void ordersJustAt200() {
        String[] firstIsThere = {"w99;g28;g38;t8,13,7;", "w33;g6;g9;p1,47,8;"};
        String[] firstIsNot = {"w99;g38;g28;t8,13,7;", "w33;g9;g6;p1,47,8;"};
        for (int i = 0; i < 2; i++) {
            orderIs("soonest behind just 200", Check.told(firstIsThere[i]), 0, 200, 0, 1);
            orderIs("not at all is later than 200", Check.told(firstIsThere[i]), 1, Check.NONE, 1, 0);
            orderIs("just 200 is sooner than not at all", Check.told(firstIsNot[i]), 0, 200, 1, 0);
            orderIs("not at all is later than 200", Check.told(firstIsNot[i]), 1, Check.NONE, 0, 1);
        }
        // one order would be there behind 201, the other later: by both not at all, so the first
        for (String text : new String[] {"w79;g31;g18;p4,29,2;", "w79;g18;g31;p4,29,2;", "w58;g56;g14;t9,15,3;"}) {
            for (int late = 0; late < 2; late++) {
                orderIs("behind 201 is not at all", Check.told(text), late, Check.NONE, 0, 1);
            }
        }
    }

    /** Of 120 orders the very last is the only one that is best. */
    private static void allOrders() {
        AntBand soonest = Check.told("w51;g96;g46;g18;g6;g1;p6,1,1;");
        orderIs("soonest by the last of 120", soonest, 0, 90, 4, 3, 2, 1, 0);
        orderIs("not at all by the first of 120", soonest, 1, Check.NONE, 0, 1, 2, 3, 4);
        AntBand latest = Check.told("w63;g8;g59;g69;g77;g99;p9,42,3;");
        orderIs("latest by the last of 120", latest, 1, 45, 4, 3, 2, 1, 0);
        orderIs("soonest by the first of 120", latest, 0, 16, 0, 1, 2, 3, 4);
    }

    private static void ordersOfSeveralTheFirst() {
        for (int late = 0; late < 2; late++) {
            orderIs("alike PULLS", Check.told("w9;g3;g3;g3;g3;g3;p1,50,1;"), late, 9, 0, 1, 2, 3, 4);
            orderIs("never", Check.told("w9;g3;g0;g9;t1,0,1;"), late, Check.NONE, 0, 1, 2);
        }
        AntBand x = Check.told("w10;g0;g9;p5,0,1;t1,0,1;");
        x.minutes(1);
        // at 500000; the next PULL would be 9, but MINUTE is as if 0 for PULLS
        orderIs("there in the next MINUTE", x, 1, 1, 0, 1);
        x.place(0, 0);
        orderIs("as if MINUTE were 0", x, 0, 2, 0, 1);
        orderIs("as if MINUTE were 0", x, 1, 3, 1, 0);
        AntBand tired = Check.told("w10;g0;g9;t5,0,2;");
        tired.minutes(1);
        // it goes at MINUTES 1, 3, 5 and 7: 500000, 263157, 178571, 135135, by both orders
        orderIs("but for PULLS alone", tired, 0, 7, 0, 1);
        // 9 first: 500000, 263157, 263157; 0 first: 500000, 500000
        orderIs("soonest by one MINUTE less", Check.told("w10;g9;g0;p5,0,1;"), 0, 2, 1, 0);
        orderIs("latest by one MINUTE more", Check.told("w10;g0;g9;p5,0,1;"), 1, 3, 1, 0);
        amongMany();
    }

    /** Several of many orders are best, and the first of them by numbers is none of the ends. */
    private static void amongMany() {
        many("w59;g40;g17;g9;g57;g69;q4,57,2;", 3, "12034", 6, "34012");
        many("w30;g66;g96;g65;g3;g39;b5,30,1;", 2, "30124", 8, "10243");
        many("w50;g41;g51;g85;g32;g25;u9,56,2;", 8, "34012", 16, "20134");
        many("w89;g89;g66;g64;g78;g96;t15,54,2;", 130, "21304", 172, "40312");
        many("w28;g54;g4;g22;g68;q7,30,2;", 2, "1023", 5, "3012");
        many("w34;g64;g0;g77;g48;g3;b4,33,4;", 3, "14023", 19, "20314");
        many("w87;g55;g2;g48;g81;g52;b8,34,2;", 7, "10234", 12, "30241");
        many("w67;g51;g24;g77;g21;g12;b3,20,1;", 10, "34102", 21, "20134");
    }

    private static void many(String text, int soonest, String first, int latest, String last) {
        AntBand x = Check.told(text);
        orderIs("soonest of " + text, x, 0, soonest, first.chars().map(figure -> figure - '0').toArray());
        orderIs("latest of " + text, x, 1, latest, last.chars().map(figure -> figure - '0').toArray());
    }

    private static void halfWithin200() {
        AntBand up = onBand(400, "p1,0,1;");
        up.place(0, 0);
        Check.due("25: just 500000 behind 200", up.half(0), 200);
        AntBand late = onBand(401, "p1,0,1;");
        late.place(0, 0);
        Check.due("25: behind 201: NONE", late.half(0), Check.NONE);
        AntBand down = onBand(408, "b1,99,1;");
        down.place(0, 99);
        Check.due("25: just 500000 behind 200, to the nail", down.half(0), 200);
        AntBand lateDown = onBand(409, "b1,99,1;");
        lateDown.place(0, 99);
        Check.due("25: behind 201: NONE, to the nail", lateDown.half(0), Check.NONE);
    }

    private static void halfOnBothSides() {
        Check.due("25: at it now", Check.told("w9;g0;p1,50,1;").half(0), 0);
        Check.due("25: just that", Check.told("w10;g0;p1,40,1;").half(0), 1);
        Check.due("25: across", Check.told("w10;g0;p1,49,1;").half(0), 1);
        Check.due("25: just that, to the nail", Check.told("w10;g0;b1,60,1;").half(0), 1);
        Check.due("25: across, to the nail", Check.told("w10;g0;b1,51,1;").half(0), 1);
        Check.due("25: away from it", Check.told("w10;g0;p1,51,1;").half(0), Check.NONE);
        Check.due("25: away from it, to the nail", Check.told("w10;g0;b1,49,1;").half(0), Check.NONE);
        Check.due("25: a turner that goes back to it", Check.told("w99;g0;u1,49,1;").half(0), 21);
        Check.due("25: resting at it", Check.told("w99;g0;t1,50,1;").half(0), 0);
        Check.due("25: resting ahead of it", Check.told("w99;g0;t1,49,1;").half(0), Check.NONE);
        Check.due("25: to the thumb by one leap", Check.told("w1;g0;p1,0,1;").half(0), 1);
        AntBand below = Check.told("w30;g0;p1,40,1;");
        below.minutes(1);
        below.letGo();
        below.minutes(1);
        Check.due("15: a millionth below it", below.ant(0, 2), 499999);
        Check.due("25: behind 1", below.half(0), 1);
        AntBand above = Check.told("w30;g0;b1,60,1;");
        above.minutes(1);
        above.letGo();
        above.minutes(1);
        Check.due("15: a millionth above it", above.ant(0, 2), 500001);
        Check.due("25: behind 1", above.half(0), 1);
    }

    private static void restAtItsEnds() {
        for (int n = 1; n <= 9; n++) {
            AntBand x = Check.told("w99;g0;t1,0,5;p1,0,5;q1,0,5;b1,50,5;");
            Check.due("26: " + n + " MINUTES, of several the first", x.rest(0, n), n);
            for (int ant = 1; ant < 4; ant++) {
                Check.due("26: no matter to " + ant, x.rest(ant, n), 1);
            }
        }
        AntBand x = Check.told("w99;g0;t1,0,5;u1,99,5;");
        Check.due("26: 10 MINUTES: 5 to 9 rest twice", x.rest(0, 10), 5);
        Check.due("26: 99 MINUTES", x.rest(0, 99), 9);
        Check.due("26: 100", x.rest(0, 100), Check.BAD);
        Check.due("26: 0", x.rest(0, 0), Check.BAD);
        Check.due("26: a turner, ahead of each turn", x.rest(1, 10), 1);
        Check.due("26: a turner turns soonest", x.rest(1, 11), 1);
        // from MINUTE 35 on REST 1 to 3 go to the thumb at once, 4 from 40 on
        AntBand late = Check.told("w99;g0;u1,99,9;t1,0,7;");
        late.minutes(24);
        late.minutes(11);
        Check.due("26: of those that turned the first", late.rest(0, 99), 1);
        Check.due("26: in MINUTE 35 rest 1, 5 and 7", late.rest(1, 1), 2);
        late.minutes(1);
        Check.due("26: in MINUTE 36 rest 1, 2, 3, 4, 6, 9", late.rest(1, 1), 5);
        // there by every REST but 1 behind many MINUTES
        Check.due("26: there by several, the first", Check.told("w1;g0;t9,0,9;").rest(0, 99), 2);
    }

    private static void passedAtItsEnds() {
        AntBand x = Check.told("w99;g0;t1,99,1;p1,0,1;t1,99,1;p1,0,1;");
        Check.due("27: 98 MINUTES", x.passed(0, 98), 0);
        Check.due("27: 99 MINUTES", x.passed(0, 99), 2 + 8);
        Check.due("27: 100", x.passed(0, 100), Check.BAD);
        Check.due("27: 0", x.passed(0, 0), Check.BAD);
        Check.due("27: ahead now does not count", x.passed(1, 99), 0);
        AntBand y = Check.told("w10;g0;p1,20,1;p2,20,1;p1,20,1;p2,10,1;p3,21,1;q1,0,1;");
        Check.due("27: alike now is not ahead now", y.passed(0, 1), 2);
        Check.due("27: alike then is not ahead then", y.passed(0, 1) & 8, 0);
        Check.due("27: ahead behind the second", y.passed(0, 2), 2 + 8);
        Check.due("27: nobody passes itself", y.passed(0, 99) & 1, 0);
        AntBand while1 = Check.told("w99;g0;u2,60,1;p1,50,1;");
        Check.due("27: behind three not yet", while1.passed(0, 3), 0);
        Check.due("27: behind four", while1.passed(0, 4), 2);
        Check.due("18: at the end both are there", while1.band(99, 1), 3);
        Check.due("27: behind one of these MINUTES at least", while1.passed(0, 99), 2);
        AntBand first = Check.told("w10;g0;p2,0,1;p1,5,1;p1,4,1;");
        Check.due("27: the first passes the second", first.passed(1, 1), 1);
        Check.due("27: the first passes the last", first.passed(2, 1), 1);
        Check.due("27: none passes the first", first.passed(0, 99), 0);
        AntBand all = Check.told("w10;g0;b1,50,1;p1,1,1;p1,2,1;p1,3,1;p1,4,1;p1,50,1;");
        Check.due("27: all five", all.passed(0, 99), 62);
    }

    private static void inchesAtTheirEnds() {
        AntBand x = Check.told("w99;g0;p1,0,1;p1,99,1;p1,1,1;p1,2,1;");
        int[] due = {0, 98, 0, 1};
        for (int ant = 0; ant < 4; ant++) {
            Check.due("30: INCHES of " + ant + ", cut", x.inches(ant), due[ant]);
        }
        AntBand one = Check.told("w1;g0;p1,99,1;b1,99,1;");
        Check.due("30: on 1 inch", one.inches(0), 0);
        one.minutes(1);
        Check.due("30: at the thumb", one.inches(0), 1);
        Check.due("30: at the nail", one.inches(1), 0);
    }

    /** 0 MINUTES: what is foretold is what is. */
    private static void foretoldAsItIsNow() {
        AntBand x = Check.told(States.FOUR);
        x.minutes(3);
        for (int ant = 0; ant < 4; ant++) {
            Check.due("17: behind none", x.ahead(ant, 0), x.ant(ant, 2));
            Check.due("31: behind none", x.wind(ant, 0, 5, 0), x.ant(ant, 3));
        }
        Check.due("18: behind none", x.band(0, 0), x.count(4));
        Check.due("18: behind none", x.band(0, 1), x.count(5));
        Check.due("32: behind none", x.drawn(0, 9, 0), Integer.bitCount(x.count(5)));
        Check.due("32: behind none", x.drawn(0, 9, 1), x.count(4));
    }

    private static void nothingChanges() {
        String twin = Whole.of(States.busy());
        for (int ant = 0; ant < 4; ant++) {
            int one = ant;
            unchanged("ahead", twin, x -> x.ahead(one, 99));
            unchanged("arrives", twin, x -> x.arrives(one));
            unchanged("meet", twin, x -> x.meet(one, (one + 1) % 4));
            unchanged("fast", twin, x -> x.fast(one, 99));
            unchanged("pullFor", twin, x -> x.pullFor(one, 99));
            unchanged("order", twin, x -> x.order(one, 0, -1));
            unchanged("order", twin, x -> x.order(one, 1, 1));
            unchanged("half", twin, x -> x.half(one));
            unchanged("rest", twin, x -> x.rest(one, 99));
            unchanged("passed", twin, x -> x.passed(one, 99));
            for (int which = 0; which < 3; which++) {
                int what = which;
                unchanged("who", twin, x -> x.who(one, what, 0, 0, 3));
            }
            unchanged("inches", twin, x -> x.inches(one));
            unchanged("wind", twin, x -> x.wind(one, 8, 5, 0));
            unchanged("ant", twin, x -> x.ant(one, 4));
            unchanged("kind", twin, x -> x.kind(one));
            unchanged("as", twin, x -> x.as(one, 0));
        }
        unchanged("band", twin, x -> x.band(99, 0));
        unchanged("band", twin, x -> x.band(99, 1));
        unchanged("leads", twin, x -> x.leads(99));
        unchanged("which", twin, x -> x.which(0, 0, 3));
        unchanged("drawn", twin, x -> x.drawn(99, 5, 0));
        unchanged("pulls", twin, x -> x.pulls(5));
        unchanged("trace", twin, x -> x.trace(16));
        unchanged("status, fault", twin, x -> Check.due("8: fault", x.fault() + x.status(), 2));
    }

    private static void unchanged(String name, String twin, Consumer<AntBand> call) {
        AntBand x = States.busy();
        call.accept(x);
        Check.due("17 to 32: nothing changes by " + name, Whole.of(x).equals(twin) ? 1 : 0, 1);
    }
}
