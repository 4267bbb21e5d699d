/** Promises 1 to 5, and 40 as far as ROWS go. */
public final class RowsTest {
    public static void main(String[] args) {
        newObject();
        rowsAreMade();
        itemsAreSet();
        itemsAreCopied();
        rowsAreDropped();
        statusOfRows();
        Check.end("RowsTest");
    }

    private static void newObject() {
        AntBand x = new AntBand();
        for (int what = 0; what <= 7; what++) {
            Check.due("1: count(" + what + ")", x.count(what), 0);
        }
        Check.due("1: status", x.status(), 0);
        Check.due("1: fault", x.fault(), 0);
        Check.due("1: undo", x.undo(), Check.STATE);
        Check.due("1: trace", x.trace(0), Check.NONE);
        for (int row = 0; row <= 7; row++) {
            Check.due("1: drop(" + row + ")", x.drop(row), Check.NULL);
        }
    }

    private static void rowsAreMade() {
        AntBand x = new AntBand();
        Check.due("2: row", x.row(0, 0, 0), 0);
        Check.due("2: row", x.row(7, 2, 40), 40);
        Check.due("2: row", x.row(3, 1, 5), 5);
        Check.due("2: count(0)", x.count(0), 3);
        Check.due("2: ROW -1", x.row(-1, 0, 1), Check.BAD);
        Check.due("2: ROW 8", x.row(8, 0, 1), Check.BAD);
        Check.due("2: LANE -1", x.row(0, -1, 1), Check.BAD);
        Check.due("2: LANE 3", x.row(0, 3, 1), Check.BAD);
        Check.due("2: n 41", x.row(0, 0, 41), Check.BAD);
        Check.due("2: n greatest", x.row(0, 0, Integer.MAX_VALUE), Check.BAD);
        Check.due("2: SIZE", x.row(0, 0, -1), Check.SIZE);
        Check.due("2: SIZE least", x.row(0, 0, Integer.MIN_VALUE), Check.SIZE);
        Check.due("2: BAD ahead of SIZE", x.row(8, 0, -1), Check.BAD);
        Check.due("2: BAD LANE ahead of SIZE", x.row(0, 3, -1), Check.BAD);
        x.set(3, 4, 77);
        Check.due("2: found changes nothing", x.row(3, 0, -1), Check.SIZE);
        Check.due("2: still 5 ITEMS", x.set(3, 4, 300), 300);
        Check.due("2: in place of what is there", x.row(3, 2, 5), 5);
        Check.fill(x, 4, 9, 9, 9, 9, 9);
        Check.due("2: ITEMS are 0 at first", x.copy(3, 0, 4, 0, 5), 5);
        Check.due("2: count(0)", x.count(0), 4);
        AntBand y = Check.told("w10;g0;b1,4,1;");
        Check.fill(y, 0, 7);
        y.row(0, 2, 1);
        Check.due("2: made anew, 0 again", y.which(0, 0, 1), 1);
    }

    private static void itemsAreSet() {
        AntBand x = new AntBand();
        x.row(0, 0, 3);
        x.row(1, 1, 3);
        x.row(2, 2, 3);
        Check.due("3: byte", x.set(0, 0, 127), 127);
        Check.due("3: byte, lowest bits", x.set(0, 1, 128), -128);
        Check.due("3: byte, lowest bits", x.set(0, 2, 0x1234FF), -1);
        Check.due("3: byte, lowest bits", x.set(0, 2, 256), 0);
        Check.due("3: short", x.set(1, 0, 32767), 32767);
        Check.due("3: short, lowest bits", x.set(1, 0, 32768), -32768);
        Check.due("3: short, lowest bits", x.set(1, 0, 65541), 5);
        Check.due("3: int", x.set(2, 2, Integer.MIN_VALUE), Integer.MIN_VALUE);
        Check.due("3: int", x.set(2, 2, Integer.MAX_VALUE), Integer.MAX_VALUE);
        Check.due("3: ROW -1", x.set(-1, 0, 1), Check.BAD);
        Check.due("3: ROW 8", x.set(8, 0, 1), Check.BAD);
        Check.due("3: NULL", x.set(3, 0, 1), Check.NULL);
        Check.due("3: NULL ahead of PLACE", x.set(3, -1, 1), Check.NULL);
        Check.due("3: PLACE below", x.set(0, -1, 1), Check.PLACE);
        Check.due("3: PLACE beyond", x.set(0, 3, 1), Check.PLACE);
        Check.due("3: PLACE least", x.set(0, Integer.MIN_VALUE, 1), Check.PLACE);
        Check.due("3: PLACE greatest", x.set(0, Integer.MAX_VALUE, 1), Check.PLACE);
        x.row(4, 0, 0);
        Check.due("3: PLACE of an empty one", x.set(4, 0, 1), Check.PLACE);
    }

    private static void itemsAreCopied() {
        AntBand x = Check.told("w10;g0;p1,0,1;");
        Check.fill(x, 0, 10, 20, 30, 40, 50);
        Check.due("4: all of the ROW is so", x.which(0, 0, 5), 1);
        Check.fill(x, 1, 0, 0, 0, 0, 0);
        Check.due("4: copy", x.copy(0, 0, 1, 0, 5), 5);
        Check.due("4: came over", x.which(1, 0, 5), 1);
        Check.due("4: overlapping, to the right", x.copy(1, 0, 1, 1, 4), 4);
        Check.due("4: as they were ahead", x.which(1, 1, 4), 1);
        Check.due("4: the first one stays", x.which(1, 0, 1), 1);
        Check.due("4: the first two are alike", x.which(1, 0, 2), 0);
        Check.due("4: overlapping, to the left", x.copy(1, 1, 1, 0, 4), 4);
        Check.due("4: as they were ahead", x.which(1, 0, 4), 1);
        Check.due("4: none at the end", x.copy(0, 5, 1, 5, 0), 0);
        Check.due("4: PLACE i at the end", x.copy(0, 5, 1, 0, 1), Check.PLACE);
        Check.due("4: PLACE i beyond", x.copy(0, 6, 1, 0, 0), Check.PLACE);
        Check.due("4: PLACE j beyond", x.copy(0, 0, 1, 6, 0), Check.PLACE);
        Check.due("4: PLACE j too far", x.copy(0, 0, 1, 1, 5), Check.PLACE);
        Check.due("4: PLACE i below", x.copy(0, -1, 1, 0, 1), Check.PLACE);
        Check.due("4: PLACE j below", x.copy(0, 0, 1, -1, 1), Check.PLACE);
        Check.due("4: PLACE n below", x.copy(0, 0, 1, 0, -1), Check.PLACE);
        Check.due("4: PLACE n least", x.copy(0, 1, 1, 1, Integer.MIN_VALUE), Check.PLACE);
        Check.due("4: PLACE n greatest", x.copy(0, 1, 1, 1, Integer.MAX_VALUE), Check.PLACE);
        Check.due("4: PLACE i greatest", x.copy(0, Integer.MAX_VALUE, 1, 0, 1), Check.PLACE);
        Check.due("4: what was found changed nothing", x.which(1, 0, 4), 1);
        Check.due("4: ROW a", x.copy(8, 0, 1, 0, 1), Check.BAD);
        Check.due("4: ROW b", x.copy(0, 0, -1, 0, 1), Check.BAD);
        Check.due("4: BAD ahead of NULL", x.copy(2, 0, 8, 0, 1), Check.BAD);
        Check.due("4: NULL a", x.copy(2, 0, 1, 0, 1), Check.NULL);
        Check.due("4: NULL b", x.copy(0, 0, 2, 0, 1), Check.NULL);
        x.row(3, 0, 5);
        Check.due("4: STORE", x.copy(0, 0, 3, 0, 1), Check.STORE);
        Check.due("4: STORE, none", x.copy(0, 0, 3, 0, 0), Check.STORE);
        Check.due("4: STORE ahead of PLACE", x.copy(0, -1, 3, 0, 1), Check.STORE);
        Check.due("4: NULL ahead of PLACE", x.copy(2, -1, 3, 0, 1), Check.NULL);
    }

    private static void rowsAreDropped() {
        AntBand x = new AntBand();
        x.row(5, 1, 12);
        x.row(6, 1, 0);
        Check.due("5: drop", x.drop(5), 12);
        Check.due("5: missing now", x.drop(5), Check.NULL);
        Check.due("5: an empty one", x.drop(6), 0);
        Check.due("5: count(0)", x.count(0), 0);
        Check.due("5: ROW -1", x.drop(-1), Check.BAD);
        Check.due("5: ROW 8", x.drop(8), Check.BAD);
        Check.due("5: missing for set", x.set(5, 0, 1), Check.NULL);
    }

    private static void statusOfRows() {
        AntBand x = new AntBand();
        x.drop(0);
        Check.due("40: NULL", x.status(), 1);
        x.row(0, 0, 41);
        Check.due("40: BAD leaves it", x.status(), 1);
        x.row(0, 0, -1);
        Check.due("40: SIZE", x.status(), 4);
        x.feed(1);
        x.count(0);
        x.minutes(1);
        x.which(0, 0, 1);
        Check.due("40: other calls and STATE leave it", x.status(), 4);
        x.row(0, 0, 1);
        Check.due("40: none", x.status(), 0);
        x.set(0, 1, 1);
        Check.due("40: PLACE", x.status(), 2);
        x.set(0, 0, 1);
        Check.due("40: none", x.status(), 0);
        x.row(1, 1, 1);
        x.copy(0, 0, 1, 0, 1);
        Check.due("40: STORE", x.status(), 5);
        x.copy(0, 0, 0, 0, 1);
        Check.due("40: none", x.status(), 0);
        x.drop(2);
        x.drop(1);
        Check.due("40: none behind drop", x.status(), 0);
    }
}
