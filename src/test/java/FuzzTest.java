import java.lang.reflect.Method;
import java.util.ArrayList;
import java.util.Comparator;
import java.util.List;
import java.util.Random;

/**
 * No call ever throws, whatever its arguments, in any state; and what is refused changes nothing: a twin that is
 * spared every refused call answers all the others alike.
 */
public final class FuzzTest {
    private static final int[] EDGES = {
        Integer.MIN_VALUE, Integer.MIN_VALUE + 1, -1000000, -2, -1, 40, 41, 99, 100, 120, 121, 200, 255, 256, 999, 1000,
        999999, 1000000, Integer.MAX_VALUE - 1, Integer.MAX_VALUE,
    };
    private static final String[] WALLS = {
        "w99;g99;g99;g99;g99;g99;q20,99,9;p20,0,1;b20,0,9;u20,99,1;t20,50,1;b1,99,9;",
        "w1;g0;t1,0,1;", "w40;g7;g30;g1;u5,60,1;p3,20,4;t9,5,2;q2,70,1;b6,99,3;p3,20,1;", "w1;g99;p1,0,1;u1,0,9;",
    };
    private static final String SIGNS = "wgptqbu0123456789,;;;,x ";
    private static final int CALLS_MOST = 512, CALLS_TO_TELL = 90;
    private static final Random DRAW = new Random(7);

    public static void main(String[] args) throws ReflectiveOperationException {
        List<Method> calls = new ArrayList<>();
        for (Method one : AntBand.class.getDeclaredMethods()) {
            if (java.lang.reflect.Modifier.isPublic(one.getModifiers())) {
                calls.add(one);
            }
        }
        // the machine lists methods in no order that is promised
        calls.sort(Comparator.comparing(Method::getName));
        for (int run = 0; run < 1500; run++) {
            run(calls);
        }
        Check.end("FuzzTest");
    }

    private static void run(List<Method> calls) throws ReflectiveOperationException {
        AntBand x = new AntBand();
        AntBand twin = new AntBand();
        int made = 0;
        while (made < CALLS_MOST) {
            if (made <= CALLS_MOST - CALLS_TO_TELL && DRAW.nextInt(25) == 0) {
                made += tell(x, twin);
            }
            Method call = calls.get(DRAW.nextInt(calls.size()));
            Object[] args = drawn(call);
            long answer = ((Number) call.invoke(x, args)).longValue();
            made++;
            // a FINDING is told by status(), so the twin is not spared it
            boolean refused = answer >= Check.FULL && answer <= Check.BAD;
            if (!refused) {
                long twins = ((Number) call.invoke(twin, args)).longValue();
                Check.due(call.getName() + " behind what was refused", answer, twins);
            }
        }
    }

    private static Object[] drawn(Method call) {
        Object[] args = new Object[call.getParameterCount()];
        for (int a = 0; a < args.length; a++) {
            args[a] = DRAW.nextInt(4) == 0 ? EDGES[DRAW.nextInt(EDGES.length)] : DRAW.nextInt(10);
        }
        if (call.getName().equals("feed")) {
            args[0] = (int) SIGNS.charAt(DRAW.nextInt(SIGNS.length()));
        }
        return args;
    }

    /** How many calls it took. */
    private static int tell(AntBand x, AntBand twin) {
        String text = WALLS[DRAW.nextInt(WALLS.length)];
        int row = DRAW.nextInt(8);
        int lane = DRAW.nextInt(3);
        int many = DRAW.nextInt(41);
        for (AntBand one : new AntBand[] {x, twin}) {
            one.wall();
            Check.read(one, text);
            one.row(row, lane, many);
        }
        return text.length() + 3;
    }
}
