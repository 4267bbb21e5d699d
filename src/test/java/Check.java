/** What the project's tests share: counting wrong answers, and objects that were told a wall. */
final class Check {
    static final int NONE = -1000000, BAD = -1000001, STATE = -1000002, FULL = -1000003;
    static final int NULL = -1000011, PLACE = -1000012, KIND = -1000013, SIZE = -1000014, STORE = -1000015;

    private static int checks = 0;
    private static int wrong = 0;

    private Check() {
    }

    static void due(String call, long got, long want) {
        checks++;
        if (got != want) {
            wrong++;
            if (wrong <= 40) {
                System.out.println(call + " answered " + got + ", due is " + want);
            }
        }
    }

    static void end(String test) {
        System.out.println(test + ": " + checks + " answers looked at, " + wrong + " not as due");
        if (wrong != 0 || checks == 0) {
            System.exit(1);
        }
    }

    static int feed(AntBand x, String text) {
        int many = -1;
        for (int i = 0; i < text.length(); i++) {
            many = x.feed(text.charAt(i));
        }
        return many;
    }

    static int read(AntBand x, String text) {
        feed(x, text);
        return x.wall();
    }

    static AntBand told(String text) {
        AntBand x = new AntBand();
        int ants = read(x, text);
        if (ants < 1) {
            due("wall of " + text, ants, 1);
        }
        return x;
    }

    /** Puts values into a ROW of ints, made anew. */
    static void fill(AntBand x, int row, int... values) {
        x.row(row, 2, values.length);
        for (int i = 0; i < values.length; i++) {
            x.set(row, i, values[i]);
        }
    }
}
