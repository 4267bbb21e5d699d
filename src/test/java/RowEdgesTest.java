/** '======== 1', ROWS, and promises 2 to 5: each ROW, LANE and number of ITEMS, what is empty and what is full. */
public final class RowEdgesTest {
    private static final int LEAST = Integer.MIN_VALUE, GREATEST = Integer.MAX_VALUE;
    /** Tired ones that never go: which() tells at which of their hundredths an ITEM is. */
    private static final String SITTERS = "w1;g0;t1,0,1;t1,7,1;t1,20,1;t1,55,1;t1,98,1;t1,99,1;";
    private static final int[] SEATS = {0, 7, 20, 55, 98, 99};

    public static void main(String[] args) {
        missingAtFirst();
        everyRow();
        zeroAtFirst();
        lowestBits();
        eachPlace();
        copiedWhole();
        copiedWithin();
        dropped();
        statusOfEach();
        Check.end("RowEdgesTest");
    }

    private static void missingAtFirst() {
        for (int row = 0; row <= 7; row++) {
            AntBand x = new AntBand();
            Check.due("1: no ROW", x.count(0), 0);
            Check.due("3: ROW " + row + " is missing", x.set(row, 0, 1), Check.NULL);
            Check.due("4: ROW " + row + " is missing", x.copy(row, 0, row, 0, 0), Check.NULL);
            Check.due("5: ROW " + row + " is missing", x.drop(row), Check.NULL);
            Check.due("2: ROW " + row, x.row(row, 0, 1), 1);
            Check.due("39: one ROW", x.count(0), 1);
            for (int other = 0; other <= 7; other++) {
                Check.due("3: of the others none", x.set(other, 0, 1), other == row ? 1 : Check.NULL);
            }
        }
        AntBand full = new AntBand();
        for (int row = 0; row <= 7; row++) {
            Check.due("2: all ROWS", full.row(row, row % 3, 40), 40);
            Check.due("39: ROWS", full.count(0), row + 1);
        }
    }

    private static void everyRow() {
        for (int row = 0; row <= 7; row++) {
            for (int lane = 0; lane <= 2; lane++) {
                AntBand x = new AntBand();
                for (int n = 0; n <= 40; n++) {
                    String name = "2: row(" + row + ", " + lane + ", " + n + ")";
                    Check.due(name, x.row(row, lane, n), n);
                    Check.due(name + ", the last", x.set(row, n - 1, 5), n == 0 ? Check.PLACE : 5);
                    Check.due(name + ", beyond", x.set(row, n, 5), Check.PLACE);
                    Check.due(name + ", in place of what is there", x.count(0), 1);
                }
                Check.due("2: 41", x.row(row, lane, 41), Check.BAD);
                Check.due("2: 40 yet", x.drop(row), 40);
            }
        }
    }

    private static void zeroAtFirst() {
        for (int lane = 0; lane <= 2; lane++) {
            AntBand x = Check.told(SITTERS);
            for (int turn = 0; turn < 2; turn++) {
                x.row(3, lane, 40);
                for (int i = 0; i < 40; i++) {
                    Check.due("2: ITEM " + i + " is 0 at first", x.which(3, i, 1), 1);
                    x.set(3, i, 99);
                    Check.due("3: ITEM " + i + " is 99", x.which(3, i, 1), 32);
                }
            }
            x.drop(3);
            x.row(3, lane, 40);
            Check.due("2: 0 again behind drop", x.which(3, 0, 12), 1);
            Check.due("2: 0 again behind drop", x.which(3, 28, 12), 1);
        }
    }

    private static void lowestBits() {
        for (int v = -70000; v <= 70000; v += 7) {
            AntBand each = rowOfEach();
            Check.due("3: a byte of " + v, each.set(0, 0, v), Math.floorMod(v + 128, 256) - 128);
            Check.due("3: a short of " + v, each.set(1, 0, v), Math.floorMod(v + 32768, 65536) - 32768);
            Check.due("3: an int of " + v, each.set(2, 0, v), v);
        }
        AntBand x = rowOfEach();
        int[][] due = {
            {127, 127, 127, 127}, {128, -128, 128, 128}, {-128, -128, -128, -128}, {-129, 127, -129, -129},
            {255, -1, 255, 255}, {256, 0, 256, 256}, {32767, -1, 32767, 32767}, {32768, 0, -32768, 32768},
            {-32768, 0, -32768, -32768}, {-32769, -1, 32767, -32769}, {65535, -1, -1, 65535}, {65536, 0, 0, 65536},
            {GREATEST, -1, -1, GREATEST}, {LEAST, 0, 0, LEAST},
        };
        for (int[] row : due) {
            for (int lane = 0; lane <= 2; lane++) {
                Check.due("3: LANE " + lane + " of " + row[0], x.set(lane, 0, row[0]), row[lane + 1]);
            }
        }
        AntBand seated = Check.told(SITTERS);
        seated.row(0, 0, 1);
        seated.set(0, 0, 256 + 55);
        Check.due("3: it is its lowest bits from then on", seated.which(0, 0, 1), 8);
        seated.row(0, 1, 1);
        seated.set(0, 0, 65536 + 98);
        Check.due("3: it is its lowest bits from then on", seated.which(0, 0, 1), 16);
        seated.row(0, 2, 1);
        seated.set(0, 0, 65536 + 98);
        Check.due("3: an int has all of them", seated.which(0, 0, 1), 0);
    }

    private static AntBand rowOfEach() {
        AntBand x = new AntBand();
        for (int lane = 0; lane <= 2; lane++) {
            x.row(lane, lane, 1);
        }
        return x;
    }

    private static void eachPlace() {
        AntBand x = Check.told(SITTERS);
        x.row(5, 2, 40);
        for (int i = 0; i < 40; i++) {
            Check.due("3: place " + i, x.set(5, i, SEATS[i % 6]), SEATS[i % 6]);
        }
        Check.due("3: place -1", x.set(5, -1, 7), Check.PLACE);
        Check.due("3: place 40", x.set(5, 40, 7), Check.PLACE);
        for (int i = 0; i < 40; i++) {
            Check.due("3: ITEM " + i + " alone was set", x.which(5, i, 1), 1 << i % 6);
        }
        Check.due("29: the last place", x.which(5, 39, 1), 1 << 3);
        Check.due("29: beyond the last", x.which(5, 40, 1), Check.PLACE);
        Check.due("29: 12 up to the end", x.which(5, 28, 12), 0);
        Check.due("29: 12, one beyond the end", x.which(5, 29, 12), Check.PLACE);
    }

    private static void copiedWhole() {
        for (int lane = 0; lane <= 2; lane++) {
            AntBand x = Check.told(SITTERS);
            x.row(0, lane, 40);
            x.row(7, lane, 40);
            for (int i = 0; i < 40; i++) {
                x.set(0, i, SEATS[i % 5 + 1]);
            }
            Check.due("4: 40 ITEMS", x.copy(0, 0, 7, 0, 40), 40);
            for (int i = 0; i < 40; i++) {
                Check.due("4: ITEM " + i + " came", x.which(7, i, 1), 1 << i % 5 + 1);
                Check.due("4: ITEM " + i + " stays", x.which(0, i, 1), 1 << i % 5 + 1);
            }
            Check.due("4: 41 ITEMS", x.copy(0, 0, 7, 0, 41), Check.PLACE);
            Check.due("4: none at both ends", x.copy(0, 40, 7, 40, 0), 0);
            Check.due("4: none beyond the end", x.copy(0, 41, 7, 40, 0), Check.PLACE);
            Check.due("4: none beyond the other's end", x.copy(0, 40, 7, 41, 0), Check.PLACE);
            Check.due("4: the last to the first", x.copy(0, 39, 7, 0, 1), 1);
            Check.due("4: it came", x.which(7, 0, 1), 1 << 39 % 5 + 1);
            Check.due("4: the first to the last", x.copy(0, 0, 7, 39, 1), 1);
            Check.due("4: it came", x.which(7, 39, 1), 2);
            Check.due("4: one beyond the last", x.copy(0, 40, 7, 0, 1), Check.PLACE);
            x.row(1, lane, 0);
            Check.due("4: none of an empty one", x.copy(1, 0, 7, 0, 0), 0);
            Check.due("4: none to an empty one", x.copy(7, 0, 1, 0, 0), 0);
            Check.due("4: one of an empty one", x.copy(1, 0, 7, 0, 1), Check.PLACE);
            Check.due("4: one to an empty one", x.copy(7, 0, 1, 0, 1), Check.PLACE);
        }
        AntBand other = new AntBand();
        other.row(0, 0, 3);
        other.row(1, 0, 5);
        Check.due("4: to a longer one's end", other.copy(0, 0, 1, 2, 3), 3);
        Check.due("4: beyond a longer one's end", other.copy(0, 0, 1, 3, 3), Check.PLACE);
        Check.due("4: more than a shorter one has", other.copy(1, 0, 0, 0, 4), Check.PLACE);
        Check.due("4: from a longer one's end", other.copy(1, 2, 0, 0, 3), 3);
    }

    /** As they were ahead: from each place to each place of the same ROW. */
    private static void copiedWithin() {
        for (int i = 0; i <= 6; i++) {
            for (int j = 0; j <= 6; j++) {
                for (int n = 0; n <= 7; n++) {
                    within(i, j, n);
                }
            }
        }
    }

    private static void within(int i, int j, int n) {
        AntBand x = Check.told(SITTERS);
        Check.fill(x, 4, SEATS);
        boolean good = i + n <= 6 && j + n <= 6;
        String name = "4: copy(4, " + i + ", 4, " + j + ", " + n + ")";
        Check.due(name, x.copy(4, i, 4, j, n), good ? n : Check.PLACE);
        for (int k = 0; k < 6; k++) {
            boolean came = good && k >= j && k < j + n;
            Check.due(name + ", ITEM " + k, x.which(4, k, 1), 1 << (came ? k - j + i : k));
        }
    }

    private static void dropped() {
        for (int row = 0; row <= 7; row++) {
            AntBand x = new AntBand();
            for (int other = 0; other <= 7; other++) {
                x.row(other, 1, 40 - other);
            }
            Check.due("5: how many it had", x.drop(row), 40 - row);
            Check.due("39: seven ROWS", x.count(0), 7);
            Check.due("5: missing now", x.drop(row), Check.NULL);
            Check.due("3: missing now", x.set(row, 0, 1), Check.NULL);
            for (int other = 0; other <= 7; other++) {
                Check.due("5: the others stay", x.drop(other), other == row ? Check.NULL : 40 - other);
            }
            Check.due("39: none", x.count(0), 0);
            Check.due("2: it can be made again", x.row(row, 0, 0), 0);
            Check.due("5: none it had", x.drop(row), 0);
        }
    }

    /** 40: the latest call with a ROW, or as(), each with a FINDING and each without. */
    private static void statusOfEach() {
        AntBand x = Check.told(SITTERS);
        x.row(0, 2, 2);
        x.row(1, 1, 2);
        status("at first", x, 0, 0);
        status("row, SIZE", x, x.row(0, 0, -1), 4);
        status("row", x, x.row(0, 2, 2), 0);
        status("set, NULL", x, x.set(2, 0, 0), 1);
        status("set", x, x.set(0, 0, 0), 0);
        status("set, PLACE", x, x.set(0, 2, 0), 2);
        status("copy", x, x.copy(0, 0, 0, 0, 2), 0);
        status("copy, STORE", x, x.copy(0, 0, 1, 0, 2), 5);
        status("who", x, x.who(0, 0, 0, 0, 2), 0);
        status("as, KIND", x, x.as(0, 3), 3);
        status("which", x, x.which(0, 0, 2), 0);
        status("copy, NULL", x, x.copy(0, 0, 2, 0, 2), 1);
        status("as", x, x.as(0, 2), 0);
        status("copy, PLACE", x, x.copy(0, 0, 0, 1, 2), 2);
        status("drop", x, x.drop(1), 0);
        status("drop, NULL", x, x.drop(1), 1);
        status("row", x, x.row(1, 0, 0), 0);
        status("who, NULL", x, x.who(0, 0, 2, 0, 2), 1);
        status("who, PLACE", x, x.who(0, 0, 0, 1, 2), 2);
        status("which, NULL", x, x.which(2, 0, 2), 1);
        status("which, PLACE", x, x.which(0, 1, 2), 2);
        x.minutes(1);
        x.undo();
        x.count(0);
        x.feed(1);
        x.ask(0, 0);
        Check.due("40: calls of no ROW leave it", x.status(), 2);
        x.wall();
        Check.due("40: a FAULT leaves it", x.status(), 2);
        Check.read(x, SITTERS);
        Check.due("40: a WALL leaves it", x.status(), 2);
        x.image(0);
        x.restore(0);
        Check.due("40: an IMAGE leaves it", x.status(), 2);
    }

    private static void status(String name, AntBand x, int answer, int due) {
        Check.due("40: status behind " + name, x.status(), due);
        Check.due("40: status changes nothing", x.status(), due);
        if (due > 0) {
            Check.due("40: the FINDING that was answered by " + name, answer, -1000010 - due);
        }
    }
}
