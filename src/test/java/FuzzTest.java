import java.lang.reflect.Method;
import java.util.ArrayList;
import java.util.Comparator;
import java.util.List;
import java.util.Random;

/** No call ever throws, whatever its arguments, in any state; a refusal changes nothing that can be asked. */
public final class FuzzTest {
    private static final int[] EDGES = {
        Integer.MIN_VALUE, Integer.MIN_VALUE + 1, -1000000, -2, -1, 40, 41, 99, 100, 120, 121, 200, 255, 256, 999, 1000,
        999999, 1000000, Integer.MAX_VALUE - 1, Integer.MAX_VALUE,
    };
    private static final String[] WALLS = {
        "w99;g99;g99;g99;g99;g99;q20,99,9;p20,0,1;b20,0,9;u20,99,1;t20,50,1;b1,99,9;",
        "w1;g0;t1,0,1;", "w40;g7;g30;g1;u5,60,1;p3,20,4;t9,5,2;q2,70,1;b6,99,3;p3,20,1;", "w1;g99;p1,0,1;u1,0,9;",
    };
    private static final String SIGNS = "wgptqbu0123456789,;;;,x ";
    private static final Random DRAW = new Random(7);

    public static void main(String[] args) throws ReflectiveOperationException {
        List<Method> calls = new ArrayList<>();
        for (Method one : AntBand.class.getDeclaredMethods()) {
            if (java.lang.reflect.Modifier.isPublic(one.getModifiers())) {
                calls.add(one);
            }
        }
        // the machine lists methods in no order that is promised
        calls.sort(Comparator.comparing(Method::getName));
        for (int run = 0; run < 300; run++) {
            run(calls);
        }
        Check.end("FuzzTest");
    }

    private static void run(List<Method> calls) throws ReflectiveOperationException {
        AntBand x = new AntBand();
        for (int k = 0; k < 512; k++) {
            if (DRAW.nextInt(25) == 0) {
                tell(x);
            }
            Method call = calls.get(DRAW.nextInt(calls.size()));
            Integer[] args = new Integer[call.getParameterCount()];
            for (int a = 0; a < args.length; a++) {
                args[a] = DRAW.nextInt(4) == 0 ? EDGES[DRAW.nextInt(EDGES.length)] : DRAW.nextInt(10);
            }
            if (call.getName().equals("feed")) {
                args[0] = (int) SIGNS.charAt(DRAW.nextInt(SIGNS.length()));
            }
            String before = state(x);
            long answer = ((Number) call.invoke(x, (Object[]) args)).longValue();
            boolean refused = answer >= Check.STORE && answer <= Check.BAD;
            Check.due(call.getName() + " refused, and changed", refused && !before.equals(state(x)) ? 1 : 0, 0);
        }
    }

    private static void tell(AntBand x) {
        x.wall();
        Check.read(x, WALLS[DRAW.nextInt(WALLS.length)]);
        x.row(DRAW.nextInt(8), DRAW.nextInt(3), DRAW.nextInt(41));
    }

    private static String state(AntBand x) {
        StringBuilder all = new StringBuilder();
        for (int what = 0; what <= 7; what++) {
            all.append(x.count(what)).append(' ');
        }
        for (int ant = 0; ant < 6; ant++) {
            for (int what = 0; what <= 5; what++) {
                all.append(x.ant(ant, what)).append(' ');
            }
        }
        for (int k = 0; k < 16; k++) {
            all.append(x.pulls(k)).append(' ').append(x.trace(k)).append(' ');
        }
        return all.append(x.fault()).toString();
    }
}
