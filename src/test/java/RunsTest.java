import java.lang.reflect.Method;
import java.lang.reflect.Modifier;
import java.util.Arrays;
import java.util.Map;
import java.util.Random;
import java.util.TreeMap;

/**
 * All promises together: drawn runs of just 512 calls, each answer as the Book has it. Most numbers are as told, some
 * are at an edge or beyond it.
 */
public final class RunsTest {
    private static final int RUNS = 500, CALLS_MOST = 512;
    private static final int[] EDGES = {
        Integer.MIN_VALUE, -2, -1, 0, 1, 2, 3, 4, 5, 6, 7, 8, 9, 10, 11, 12, 13, 20, 21, 24, 25, 40, 41, 99, 100, 255, 256,
        1000000, Integer.MAX_VALUE,
    };
    /** Which numbers each call takes, a letter each: see number(). */
    private static final String[] CALLS = {
        "row Rli", "set Riv", "copy RoRoo", "drop R", "feed f", "wall", "fault", "undo", "minutes m", "pull qh", "letGo",
        "place ah", "step as", "ant aw", "pulls q", "ahead ah", "band hb", "arrives a", "leads h", "meet aa", "fast ah",
        "pullFor ah", "order abq", "half a", "rest ah", "passed ah", "who alRij", "which Rij", "inches a", "wind anpb",
        "drawn hSb", "image b", "restore b", "kind a", "as aw", "ask ab", "trace w", "count c", "status",
    };
    private static final Random DRAW = new Random(40);

    private static final Map<String, Method> METHODS = new TreeMap<>();
    private static final Map<String, int[]> SEEN = new TreeMap<>();

    private final AntBand x = new AntBand();
    private final Book book = new Book();
    private final int run;
    private int made;

    private RunsTest(int run) {
        this.run = run;
    }

    public static void main(String[] args) throws ReflectiveOperationException {
        for (Method one : AntBand.class.getDeclaredMethods()) {
            if (Modifier.isPublic(one.getModifiers())) {
                METHODS.put(one.getName(), one);
            }
        }
        for (int run = 0; run < RUNS; run++) {
            new RunsTest(run).go();
        }
        everyCallWasMade();
        Check.end("RunsTest");
    }

    private void go() throws ReflectiveOperationException {
        if (DRAW.nextInt(8) > 0) {
            tell();
        }
        while (made < CALLS_MOST) {
            int turn = DRAW.nextInt(100);
            if (turn == 0 && made < CALLS_MOST / 2) {
                tell();
            } else if (turn < 4) {
                marks();
            } else if (turn < 10) {
                call("minutes", number('m'));
            } else if (turn < 13) {
                call("undo");
            } else {
                drawnCall();
            }
        }
        Check.due("run " + run + ": calls", made, CALLS_MOST);
    }

    private void call(String name, int... numbers) throws ReflectiveOperationException {
        if (made == CALLS_MOST) {
            return;
        }
        made++;
        Object[] args = Arrays.stream(numbers).boxed().toArray();
        long got = ((Number) METHODS.get(name).invoke(x, args)).longValue();
        Check.due("run " + run + ", call " + made + ": " + name + Arrays.toString(numbers), got,
                book.answer(name, numbers));
        boolean refused = got <= Check.BAD;
        SEEN.computeIfAbsent(name, key -> new int[2])[refused ? 1 : 0]++;
    }

    private void drawnCall() throws ReflectiveOperationException {
        String[] told = CALLS[DRAW.nextInt(CALLS.length)].split(" ");
        int[] numbers = new int[told.length > 1 ? told[1].length() : 0];
        for (int k = 0; k < numbers.length; k++) {
            numbers[k] = DRAW.nextInt(16) == 0 ? EDGES[DRAW.nextInt(EDGES.length)] : number(told[1].charAt(k));
        }
        call(told[0], numbers);
    }

    private static int below(int n) {
        return DRAW.nextInt(n);
    }

    private static int number(char sort) {
        switch (sort) {
            case 'R': return below(below(4) == 0 ? 8 : 2);
            case 'l': return below(3);
            case 'i': return below(below(2) == 0 ? 3 : 41);
            case 'o': return below(4);
            case 'j': return 1 + below(below(2) == 0 ? 3 : 12);
            case 'v': return below(2) == 0 ? below(101) : below(1 << 18) - (1 << 17);
            case 'f': return "wgptqbu0123456789,;".charAt(below(19));
            case 'm': return 1 + below(below(3) == 0 ? 24 : 5);
            case 'q': return below(6) - 1 + below(2);
            case 'h': return below(below(2) == 0 ? 100 : 13);
            case 'a': return below(below(4) == 0 ? 6 : 3);
            case 's': return 1 + below(20);
            case 'w': return below(6);
            case 'b': return below(2);
            case 'n': return below(9);
            case 'p': return below(11);
            case 'S': return 1 + below(999999);
            default: return below(8);
        }
    }

    /** A text, in one of six cases with a byte that is another. */
    private void tell() throws ReflectiveOperationException {
        StringBuilder text = new StringBuilder("w").append(1 + below(1 + below(99))).append(';');
        int greatest = below(2) == 0 ? 12 : 100;
        for (int k = below(below(4) == 0 ? 5 : 3); k >= 0; k--) {
            text.append('g').append(below(greatest)).append(';');
        }
        for (int k = below(6); k >= 0; k--) {
            text.append("ptqbu".charAt(below(5))).append(1 + below(1 + below(20))).append(',');
            text.append(below(100)).append(',').append(1 + below(9)).append(';');
        }
        if (below(6) == 0) {
            text.setCharAt(below(text.length()), (char) number('f'));
        }
        if (below(3) > 0) {
            call("wall");
        }
        for (int i = 0; i < text.length(); i++) {
            call("feed", text.charAt(i));
        }
        call("wall");
    }

    /** Where an ANT will be, put into a ROW and asked for. */
    private void marks() throws ReflectiveOperationException {
        Model.Moment now = book.moment();
        if (now == null) {
            return;
        }
        int ant = below(now.walkers().length);
        int row = below(2);
        int many = 1 + below(below(2) == 0 ? 4 : 12);
        call("row", row, below(3), many);
        for (int k = 0; k < many; k++) {
            call("set", row, k, now.later(k + 1).part(ant) / 10000);
        }
        for (int which = 0; which < 3; which++) {
            call("who", below(3) == 0 ? 0 : ant, which, row, 0, 1 + below(many));
        }
        call("which", row, 0, 1 + below(many));
    }

    /** A run that never gets there would show nothing. */
    private static void everyCallWasMade() {
        for (Map.Entry<String, int[]> one : SEEN.entrySet()) {
            Check.due(one.getKey() + " was answered often", one.getValue()[0] > 300 ? 1 : 0, 1);
        }
        Check.due("calls that were made", SEEN.size(), METHODS.size());
    }
}
