import java.util.HashMap;
import java.util.Map;
import java.util.function.Supplier;
import java.util.function.ToLongFunction;

/**
 * Every refusal that a promise names: on both sides of each range, which comes ahead of which, and that nothing but
 * status() is changed by it ('Terms', first paragraph). Each row begins with its promise's number.
 */
public final class RefusalsTest {
    private static final int LEAST = Integer.MIN_VALUE, GREATEST = Integer.MAX_VALUE;
    /** Just outside 0 to 3, of which there are four ANTS in States.busy(). */
    private static final int[] NO_ANT = {LEAST, -1, 4, GREATEST};
    private static final int[] NO_ROW = {LEAST, -1, 8, GREATEST};
    private static final int WALKS = 0, ARRIVED = 2, MISSING = 3;
    private static final Map<String, String> TWINS = new HashMap<>();

    public static void main(String[] args) {
        rows();
        told();
        done();
        foretoldOfAll();
        foretoldOfOne();
        foretoldOfOneThatWalks();
        marks();
        windAndDraws();
        images();
        asked();
        withoutWall();
        faultsLeaveAll();
        Check.end("RefusalsTest");
    }

    /** The call is refused so, from a state with a FINDING and from one without, and all else stays. */
    private static void refused(String name, String state, ToLongFunction<AntBand> call, long want) {
        for (int finding = 0; finding <= 1; finding++) {
            AntBand x = made(state, finding);
            int before = x.status();
            Check.due(name, call.applyAsLong(x), want);
            boolean found = want <= Check.NULL;
            Check.due("40: status behind " + name, x.status(), found ? -1000010 - want : before);
            int kind = finding;
            String twin = TWINS.computeIfAbsent(state + kind, key -> Whole.of(made(state, kind)));
            Check.due("nothing changed by " + name, Whole.of(x).equals(twin) ? 1 : 0, 1);
        }
    }

    private static AntBand made(String state, int finding) {
        Supplier<AntBand> maker = switch (state) {
            case "bare" -> States::bare;
            case "old" -> States::old;
            case "full" -> States::full;
            default -> States::busy;
        };
        AntBand x = maker.get();
        x.copy(0, 0, finding == 0 ? 0 : 1, 0, 0);
        return x;
    }

    private static void refused(String name, ToLongFunction<AntBand> call, long want) {
        refused(name, "busy", call, want);
    }

    private static void rows() {
        for (int row : NO_ROW) {
            refused("2: row(" + row + ", 0, 1)", x -> x.row(row, 0, 1), Check.BAD);
            refused("2: row(" + row + ", 0, -1), ahead of SIZE", x -> x.row(row, 0, -1), Check.BAD);
            refused("3: set(" + row + ", 0, 1)", x -> x.set(row, 0, 1), Check.BAD);
            refused("4: copy from " + row, x -> x.copy(row, 0, 0, 0, 1), Check.BAD);
            refused("4: copy to " + row, x -> x.copy(0, 0, row, 0, 1), Check.BAD);
            refused("4: copy to " + row + ", ahead of NULL", x -> x.copy(MISSING, 0, row, 0, 1), Check.BAD);
            refused("4: copy from " + row + ", ahead of NULL", x -> x.copy(row, 0, MISSING, 0, 1), Check.BAD);
            refused("4: copy from " + row + ", ahead of PLACE", x -> x.copy(row, -1, 0, -1, -1), Check.BAD);
            refused("5: drop(" + row + ")", x -> x.drop(row), Check.BAD);
        }
        for (int lane : new int[] {LEAST, -1, 3, GREATEST}) {
            refused("2: LANE " + lane, x -> x.row(0, lane, 1), Check.BAD);
            refused("2: LANE " + lane + ", ahead of SIZE", x -> x.row(0, lane, -1), Check.BAD);
        }
        for (int many : new int[] {41, GREATEST}) {
            refused("2: ITEMS " + many, x -> x.row(0, 0, many), Check.BAD);
        }
        for (int many : new int[] {LEAST, -1}) {
            refused("2: ITEMS " + many, x -> x.row(0, 0, many), Check.SIZE);
            refused("2: ITEMS " + many + " of one that is missing", x -> x.row(7, 2, many), Check.SIZE);
        }
        for (int row = MISSING; row <= 7; row++) {
            int gone = row;
            refused("3: NULL " + row, x -> x.set(gone, 0, 1), Check.NULL);
            refused("3: NULL " + row + ", ahead of PLACE", x -> x.set(gone, -1, 1), Check.NULL);
            refused("5: NULL " + row, x -> x.drop(gone), Check.NULL);
        }
        places();
        copies();
    }

    private static void places() {
        for (int i : new int[] {LEAST, -1, 3, 40, GREATEST}) {
            refused("3: PLACE " + i + " of 3 ITEMS", x -> x.set(0, i, 1), Check.PLACE);
        }
        for (int i : new int[] {-1, 0}) {
            refused("3: PLACE " + i + " of none", x -> x.set(2, i, 1), Check.PLACE);
        }
    }

    private static void copies() {
        refused("4: NULL from", x -> x.copy(MISSING, 0, 0, 0, 1), Check.NULL);
        refused("4: NULL to", x -> x.copy(0, 0, MISSING, 0, 1), Check.NULL);
        refused("4: NULL, none copied", x -> x.copy(MISSING, 0, MISSING, 0, 0), Check.NULL);
        refused("4: NULL ahead of PLACE", x -> x.copy(MISSING, -1, 0, -1, -1), Check.NULL);
        refused("4: NULL to, ahead of PLACE", x -> x.copy(0, 9, MISSING, -1, -1), Check.NULL);
        refused("4: STORE, ints to bytes", x -> x.copy(0, 0, 1, 0, 1), Check.STORE);
        refused("4: STORE, bytes to ints", x -> x.copy(1, 0, 0, 0, 1), Check.STORE);
        refused("4: STORE, shorts to ints, none copied", x -> x.copy(2, 0, 0, 0, 0), Check.STORE);
        refused("4: STORE, bytes to shorts, ahead of PLACE", x -> x.copy(1, -1, 2, 9, 50), Check.STORE);
        for (int far : new int[] {LEAST, -1, 4, GREATEST}) {
            refused("4: PLACE i " + far, x -> x.copy(0, far, 0, 0, 0), Check.PLACE);
            refused("4: PLACE j " + far, x -> x.copy(0, 0, 0, far, 0), Check.PLACE);
            refused("4: PLACE n " + far, x -> x.copy(0, 0, 0, 0, far), Check.PLACE);
        }
        refused("4: PLACE, from 1 on 3", x -> x.copy(0, 1, 0, 0, 3), Check.PLACE);
        refused("4: PLACE, to 1 on 3", x -> x.copy(0, 0, 0, 1, 3), Check.PLACE);
        refused("4: PLACE, from 3 on 1", x -> x.copy(0, 3, 0, 0, 1), Check.PLACE);
        refused("4: PLACE, to 3 on 1", x -> x.copy(0, 0, 0, 3, 1), Check.PLACE);
        refused("4: PLACE, i and n beyond ints", x -> x.copy(0, GREATEST, 0, 0, GREATEST), Check.PLACE);
        refused("4: PLACE, j and n below ints", x -> x.copy(0, 0, 0, LEAST, LEAST), Check.PLACE);
        refused("4: PLACE, i less n is 0", x -> x.copy(0, -1, 0, 0, 1), Check.PLACE);
        refused("4: PLACE, 1 of an empty one", x -> x.copy(2, 0, 2, 0, 1), Check.PLACE);
    }

    private static void told() {
        for (int letter : new int[] {LEAST, -1, 256, GREATEST}) {
            refused("6: feed(" + letter + ")", x -> x.feed(letter), Check.BAD);
            refused("6: feed(" + letter + "), ahead of FULL", "full", x -> x.feed(letter), Check.BAD);
        }
        for (int letter : new int[] {0, ';', 255}) {
            refused("6: feed(" + letter + ") as the 121st", "full", x -> x.feed(letter), Check.FULL);
        }
        refused("9: undo, no WALL", "bare", x -> x.undo(), Check.STATE);
    }

    private static void done() {
        for (int n : new int[] {LEAST, -1, 0, 25, GREATEST}) {
            refused("10: minutes(" + n + ")", x -> x.minutes(n), Check.BAD);
            refused("10: minutes(" + n + "), ahead of FULL", "old", x -> x.minutes(n), Check.BAD);
            refused("10: minutes(" + n + "), no WALL is ahead", "bare", x -> x.minutes(n), Check.STATE);
        }
        for (int n : new int[] {1, 2, 24}) {
            refused("10: minutes(" + n + ") beyond 999", "old", x -> x.minutes(n), Check.FULL);
        }
        for (int pull : new int[] {LEAST, -1, 2, GREATEST}) {
            refused("11: PULL " + pull, x -> x.pull(pull, 1), Check.BAD);
        }
        for (int inches : new int[] {LEAST, -1, 100, GREATEST}) {
            refused("11: INCHES " + inches, x -> x.pull(0, inches), Check.BAD);
        }
        for (int ant : NO_ANT) {
            refused("13: ANT " + ant, x -> x.place(ant, 1), Check.BAD);
            refused("14: ANT " + ant, x -> x.step(ant, 1), Check.BAD);
            refused("15: ANT " + ant, x -> x.ant(ant, 0), Check.BAD);
        }
        for (int at : new int[] {LEAST, -1, 100, GREATEST}) {
            refused("13: hundredth " + at, x -> x.place(WALKS, at), Check.BAD);
            refused("13: hundredth " + at + ", ahead of STATE", x -> x.place(ARRIVED, at), Check.BAD);
        }
        for (int at : new int[] {0, 99}) {
            refused("13: it ARRIVED, to " + at, x -> x.place(ARRIVED, at), Check.STATE);
        }
        for (int n : new int[] {LEAST, -1, 0, 21, GREATEST}) {
            refused("14: STEP " + n, x -> x.step(WALKS, n), Check.BAD);
        }
        for (int what : new int[] {LEAST, -1, 6, GREATEST}) {
            refused("15: what " + what, x -> x.ant(WALKS, what), Check.BAD);
        }
        for (int k : new int[] {LEAST, -1}) {
            refused("16: pulls(" + k + ")", x -> x.pulls(k), Check.BAD);
        }
    }

    private static void foretoldOfAll() {
        for (int n : new int[] {LEAST, -1, 100, GREATEST}) {
            refused("17: ahead, n " + n, x -> x.ahead(WALKS, n), Check.BAD);
            refused("18: band, n " + n, x -> x.band(n, 0), Check.BAD);
            refused("18: band, n " + n, x -> x.band(n, 1), Check.BAD);
            refused("20: leads, n " + n, x -> x.leads(n), Check.BAD);
        }
        for (int what : new int[] {LEAST, -1, 2, GREATEST}) {
            refused("18: band, what " + what, x -> x.band(1, what), Check.BAD);
        }
    }

    private static void foretoldOfOne() {
        for (int ant : NO_ANT) {
            refused("17: ANT " + ant, x -> x.ahead(ant, 1), Check.BAD);
            refused("19: ANT " + ant, x -> x.arrives(ant), Check.BAD);
            refused("21: ANT " + ant, x -> x.meet(ant, 0), Check.BAD);
            refused("21: other " + ant, x -> x.meet(0, ant), Check.BAD);
            refused("27: ANT " + ant, x -> x.passed(ant, 1), Check.BAD);
            refused("30: ANT " + ant, x -> x.inches(ant), Check.BAD);
        }
        for (int ant = 0; ant < 4; ant++) {
            int one = ant;
            refused("21: alike " + ant, x -> x.meet(one, one), Check.BAD);
        }
        for (int n : new int[] {LEAST, -1, 0, 100, GREATEST}) {
            refused("27: n " + n, x -> x.passed(WALKS, n), Check.BAD);
        }
    }

    private static void foretoldOfOneThatWalks() {
        for (int ant : NO_ANT) {
            refused("22: ANT " + ant, x -> x.fast(ant, 1), Check.BAD);
            refused("23: ANT " + ant, x -> x.pullFor(ant, 1), Check.BAD);
            refused("24: ANT " + ant, x -> x.order(ant, 0, -1), Check.BAD);
            refused("25: ANT " + ant, x -> x.half(ant), Check.BAD);
            refused("26: ANT " + ant, x -> x.rest(ant, 1), Check.BAD);
        }
        for (int ant : new int[] {WALKS, ARRIVED}) {
            for (int n : new int[] {LEAST, -1, 0, 100, GREATEST}) {
                refused("22: n " + n + " of " + ant, x -> x.fast(ant, n), Check.BAD);
                refused("23: n " + n + " of " + ant, x -> x.pullFor(ant, n), Check.BAD);
                refused("26: n " + n + " of " + ant, x -> x.rest(ant, n), Check.BAD);
            }
            for (int k : new int[] {LEAST, -2}) {
                refused("24: k " + k + " of " + ant, x -> x.order(ant, 0, k), Check.BAD);
                refused("24: k " + k + " of " + ant, x -> x.order(ant, 1, k), Check.BAD);
            }
            for (int late : new int[] {LEAST, -1, 2, GREATEST}) {
                refused("24: late " + late + " of " + ant, x -> x.order(ant, late, -1), Check.BAD);
            }
        }
        for (int n : new int[] {1, 99}) {
            refused("22: it ARRIVED", x -> x.fast(ARRIVED, n), Check.STATE);
            refused("23: it ARRIVED", x -> x.pullFor(ARRIVED, n), Check.STATE);
            refused("26: it ARRIVED", x -> x.rest(ARRIVED, n), Check.STATE);
        }
        for (int k : new int[] {-1, 0, 1, 2, GREATEST}) {
            refused("24: it ARRIVED, k " + k, x -> x.order(ARRIVED, 0, k), Check.STATE);
            refused("24: it ARRIVED, k " + k, x -> x.order(ARRIVED, 1, k), Check.STATE);
        }
        refused("25: it ARRIVED", x -> x.half(ARRIVED), Check.STATE);
    }

    private static void marks() {
        for (int ant : NO_ANT) {
            refused("28: ANT " + ant, x -> x.who(ant, 0, 0, 0, 1), Check.BAD);
            refused("28: ANT " + ant + ", ahead of NULL", x -> x.who(ant, 0, MISSING, 0, 1), Check.BAD);
        }
        for (int which : new int[] {LEAST, -1, 3, GREATEST}) {
            refused("28: which " + which, x -> x.who(WALKS, which, 0, 0, 1), Check.BAD);
            refused("28: which " + which + ", ahead of PLACE", x -> x.who(WALKS, which, 0, -1, 1), Check.BAD);
        }
        for (int row : NO_ROW) {
            refused("28: ROW " + row, x -> x.who(WALKS, 0, row, 0, 1), Check.BAD);
            refused("29: ROW " + row, x -> x.which(row, 0, 1), Check.BAD);
        }
        for (int n : new int[] {LEAST, -1, 0, 13, GREATEST}) {
            refused("28: n " + n, x -> x.who(WALKS, 0, 0, 0, n), Check.BAD);
            refused("28: n " + n + ", ahead of NULL", x -> x.who(WALKS, 0, MISSING, 0, n), Check.BAD);
            refused("29: n " + n, x -> x.which(0, 0, n), Check.BAD);
            refused("29: n " + n + ", ahead of NULL", x -> x.which(MISSING, 0, n), Check.BAD);
        }
        for (int row = MISSING; row <= 7; row++) {
            int gone = row;
            refused("28: NULL " + row, x -> x.who(WALKS, 2, gone, 0, 1), Check.NULL);
            refused("28: NULL " + row + ", ahead of PLACE", x -> x.who(WALKS, 2, gone, -1, 12), Check.NULL);
            refused("29: NULL " + row, x -> x.which(gone, 0, 1), Check.NULL);
            refused("29: NULL " + row + ", ahead of PLACE", x -> x.which(gone, -1, 12), Check.NULL);
        }
        int[][] beyond = {{LEAST, 1}, {-1, 1}, {-1, 2}, {3, 1}, {2, 2}, {1, 3}, {0, 4}, {0, 12}, {GREATEST, 12}};
        for (int[] place : beyond) {
            String told = "PLACE, from " + place[0] + " on " + place[1] + " of 3";
            refused("28: " + told, x -> x.who(WALKS, 1, 0, place[0], place[1]), Check.PLACE);
            refused("29: " + told, x -> x.which(0, place[0], place[1]), Check.PLACE);
        }
        refused("28: PLACE of an empty one", x -> x.who(WALKS, 1, 2, 0, 1), Check.PLACE);
        refused("29: PLACE of an empty one", x -> x.which(2, 0, 1), Check.PLACE);
    }

    private static void windAndDraws() {
        for (int ant : NO_ANT) {
            refused("31: ANT " + ant, x -> x.wind(ant, 1, 1, 0), Check.BAD);
        }
        for (int n : new int[] {LEAST, -1, 9, GREATEST}) {
            refused("31: n " + n, x -> x.wind(WALKS, n, 1, 0), Check.BAD);
        }
        for (int p : new int[] {LEAST, -1, 11, GREATEST}) {
            refused("31: p " + p, x -> x.wind(WALKS, 1, p, 0), Check.BAD);
        }
        for (int what : new int[] {LEAST, -1, 2, GREATEST}) {
            refused("31: what " + what, x -> x.wind(WALKS, 1, 1, what), Check.BAD);
            refused("32: what " + what, x -> x.drawn(1, 1, what), Check.BAD);
        }
        for (int n : new int[] {LEAST, -1, 100, GREATEST}) {
            refused("32: n " + n, x -> x.drawn(n, 1, 0), Check.BAD);
        }
        for (int seed : new int[] {LEAST, -1, 0, 1000000, GREATEST}) {
            refused("32: SEED " + seed, x -> x.drawn(1, seed, 0), Check.BAD);
            refused("32: SEED " + seed + " of no MINUTE", x -> x.drawn(0, seed, 1), Check.BAD);
        }
    }

    private static void images() {
        for (int k : new int[] {LEAST, -1, 2, GREATEST}) {
            refused("33: image(" + k + ")", x -> x.image(k), Check.BAD);
            refused("33: image(" + k + "), ahead of STATE", "bare", x -> x.image(k), Check.BAD);
            refused("34: restore(" + k + ")", x -> x.restore(k), Check.BAD);
            refused("34: restore(" + k + "), ahead of STATE", "bare", x -> x.restore(k), Check.BAD);
        }
        refused("34: image 1 was not kept", x -> x.restore(1), Check.STATE);
        refused("34: image 0 was not kept", "old", x -> x.restore(0), Check.STATE);
    }

    private static void asked() {
        for (int ant : NO_ANT) {
            refused("35: ANT " + ant, x -> x.kind(ant), Check.BAD);
            refused("36: ANT " + ant, x -> x.as(ant, 0), Check.BAD);
            refused("37: ANT " + ant, x -> x.ask(ant, 0), Check.BAD);
        }
        for (int kind : new int[] {LEAST, -1, 6, GREATEST}) {
            refused("36: KIND " + kind, x -> x.as(WALKS, kind), Check.BAD);
        }
        refused("36: a plain one is not tired", x -> x.as(0, 2), Check.KIND);
        refused("36: a plain one is no turner", x -> x.as(0, 5), Check.KIND);
        refused("36: a quick one that ARRIVED is not tired", x -> x.as(2, 2), Check.KIND);
        refused("36: one that goes back is not plain", x -> x.as(3, 1), Check.KIND);
        refused("36: one that goes back is no turner", x -> x.as(3, 5), Check.KIND);
        for (int what : new int[] {LEAST, -1, 2, GREATEST}) {
            refused("37: what " + what, x -> x.ask(WALKS, what), Check.BAD);
        }
        for (int what : new int[] {LEAST, -1, 8, GREATEST}) {
            refused("39: what " + what, x -> x.count(what), Check.BAD);
            refused("39: what " + what + ", no WALL", "bare", x -> x.count(what), Check.BAD);
        }
    }

    private static void withoutWall() {
        without("11: pull", x -> x.pull(0, 1), Check.BAD);
        without("12: letGo", x -> x.letGo(), Check.STATE);
        without("13: place", x -> x.place(0, 0), Check.BAD);
        without("14: step", x -> x.step(0, 1), Check.BAD);
        without("15: ant", x -> x.ant(0, 2), Check.BAD);
        without("16: pulls below 0", x -> x.pulls(-1), Check.BAD);
        without("17: ahead", x -> x.ahead(0, 0), Check.BAD);
        without("19: arrives", x -> x.arrives(0), Check.BAD);
        without("21: meet", x -> x.meet(0, 1), Check.BAD);
        without("22: fast", x -> x.fast(0, 1), Check.BAD);
        without("23: pullFor", x -> x.pullFor(0, 1), Check.BAD);
        without("24: order", x -> x.order(0, 0, -1), Check.BAD);
        without("25: half", x -> x.half(0), Check.BAD);
        without("26: rest", x -> x.rest(0, 1), Check.BAD);
        without("27: passed", x -> x.passed(0, 1), Check.BAD);
        without("28: who", x -> x.who(0, 0, 0, 0, 1), Check.BAD);
        without("28: who, ahead of NULL", x -> x.who(0, 0, MISSING, 0, 1), Check.BAD);
        without("30: inches", x -> x.inches(0), Check.BAD);
        without("31: wind above", x -> x.wind(0, 0, 0, 0), Check.BAD);
        without("31: wind below", x -> x.wind(0, 0, 0, 1), Check.BAD);
        without("33: image 0", x -> x.image(0), Check.STATE);
        without("33: image 1", x -> x.image(1), Check.STATE);
        without("34: restore 0", x -> x.restore(0), Check.STATE);
        without("34: restore 1", x -> x.restore(1), Check.STATE);
        without("35: kind", x -> x.kind(0), Check.BAD);
        without("36: as", x -> x.as(0, 0), Check.BAD);
        without("37: ask", x -> x.ask(0, 1), Check.BAD);
        for (int n : new int[] {LEAST, -1, 0, 1, 99, 100, GREATEST}) {
            without("18: band(" + n + ", 0), STATE ahead of BAD", x -> x.band(n, 0), Check.STATE);
            without("18: band(0, " + n + "), STATE ahead of BAD", x -> x.band(0, n), Check.STATE);
            without("20: leads(" + n + "), STATE ahead of BAD", x -> x.leads(n), Check.STATE);
            without("29: which, ROW " + n + ", STATE ahead of BAD and NULL", x -> x.which(n, 0, 1), Check.STATE);
            without("29: which, from " + n + ", STATE ahead of PLACE", x -> x.which(0, n, 1), Check.STATE);
            without("29: which, n " + n + ", STATE ahead of BAD", x -> x.which(0, 0, n), Check.STATE);
            without("32: drawn, n " + n + ", STATE ahead of BAD", x -> x.drawn(n, 1, 0), Check.STATE);
            without("32: drawn, SEED " + n + ", STATE ahead of BAD", x -> x.drawn(0, n, 0), Check.STATE);
            without("32: drawn, what " + n + ", STATE ahead of BAD", x -> x.drawn(0, 1, n), Check.STATE);
        }
    }

    private static void without(String name, ToLongFunction<AntBand> call, long want) {
        refused(name + ", no WALL", "bare", call, want);
    }

    /** A FAULT leaves all but fault() and the tape; the twin had the same FAULT ahead of its WALL. */
    private static void faultsLeaveAll() {
        String[] texts = {"", "w", "w10;g1;p1,0,1;x", "w100", "w1;g1;g2;g3;g4;g5;p1,0,1"};
        for (String text : texts) {
            AntBand x = afterFault();
            AntBand twin = afterFault();
            x.as(0, 5);
            twin.as(0, 5);
            Check.due("7: wall of '" + text + "'", Check.read(x, text) < -1000099 ? 1 : 0, 1);
            Check.due("40: status behind '" + text + "'", x.status(), 3);
            Check.due("7: all stays behind '" + text + "'", Whole.of(x).equals(Whole.of(twin)) ? 1 : 0, 1);
        }
    }

    private static AntBand afterFault() {
        AntBand x = new AntBand();
        x.row(1, 1, 1);
        Check.read(x, "?");
        Check.read(x, States.FOUR);
        x.minutes(2);
        x.image(1);
        x.letGo();
        x.ask(0, 0);
        return x;
    }
}
