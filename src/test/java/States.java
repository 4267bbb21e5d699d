/** Objects in the states in which calls are refused, each made anew. */
final class States {
    /** A plain one, a tired one, a quick one that ARRIVES in the first MINUTE, one that goes back. */
    static final String FOUR = "w10;g10;g3;p2,0,1;t3,20,2;q9,95,3;b2,50,1;";
    /** A good text that waits on the tape. */
    static final String WAITS = "w77;g9;u4,31,5;";

    private States() {
    }

    /** No WALL, no IMAGE, no ACT; some ROWS; a FAULT; something on the tape. */
    static AntBand bare() {
        AntBand x = new AntBand();
        rows(x);
        Check.read(x, "w0");
        Check.feed(x, WAITS);
        return x;
    }

    /** A WALL with four ANTS of which the third ARRIVED, two PULLS, five ACTS, one IMAGE, a TRACE. */
    static AntBand busy() {
        AntBand x = new AntBand();
        rows(x);
        Check.read(x, "w0");
        Check.read(x, FOUR);
        x.minutes(1);
        x.image(0);
        x.pull(1, 5);
        x.letGo();
        x.place(0, 33);
        x.step(1, 7);
        x.ask(1, 0);
        Check.feed(x, WAITS);
        return x;
    }

    /** One ROW of ints, one of bytes, one of shorts that is empty; 3 to 7 are missing. */
    private static void rows(AntBand x) {
        Check.fill(x, 0, 0, 7, 55);
        x.row(1, 0, 2);
        x.set(1, 0, 98);
        x.set(1, 1, 20);
        x.row(2, 1, 0);
    }

    /** As busy(), with MINUTE 999 and none ACT but one. */
    static AntBand old() {
        AntBand x = Check.told(FOUR);
        for (int turn = 0; turn < 41; turn++) {
            x.minutes(24);
        }
        x.minutes(15);
        x.image(1);
        x.restore(1);
        x.letGo();
        x.row(0, 2, 1);
        return x;
    }

    /** No WALL, and 120 bytes on the tape. */
    static AntBand full() {
        AntBand x = new AntBand();
        x.row(0, 2, 1);
        for (int i = 0; i < 120; i++) {
            x.feed(i == 0 ? 'w' : '1');
        }
        return x;
    }
}
