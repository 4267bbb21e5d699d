/**
 * All that can ever be asked of an object, as one text but for status(): two objects that are told alike by it differ
 * in nothing that a call could show. The object is used up by it; made and told together stay below 512 calls.
 */
final class Whole {
    /** Tired ones that rest in every MINUTE, so that which() tells what an ITEM is, if it is one of these. */
    static final int[] SEATS = {0, 7, 20, 55, 98, 99};
    private static final String SITTERS = "w1;g0;t1,0,1;t1,7,1;t1,20,1;t1,55,1;t1,98,1;t1,99,1;";

    private final AntBand x;
    private final StringBuilder all = new StringBuilder();

    private Whole(AntBand x) {
        this.x = x;
    }

    static String of(AntBand x) {
        Whole whole = new Whole(x);
        whole.tell("fault", x.fault());
        whole.tell("rows", x.count(0));
        whole.tell("tape", x.count(7));
        whole.trace();
        whole.wall();
        whole.acts();
        whole.images();
        whole.tape();
        whole.rows();
        return whole.all.toString();
    }

    private void tell(String what, long answer) {
        all.append(what).append(' ').append(answer).append('\n');
    }

    private void trace() {
        for (int i = 0; i <= 16; i++) {
            tell("trace", x.trace(i));
        }
    }

    private void wall() {
        int[] counts = new int[7];
        for (int what = 1; what <= 6; what++) {
            counts[what] = x.count(what);
            tell("count " + what, counts[what]);
        }
        for (int pull = 0; pull < counts[1]; pull++) {
            tell("pull", x.pulls(pull));
        }
        for (int ant = 0; ant < counts[2]; ant++) {
            tell("kind", x.kind(ant));
            for (int what : new int[] {0, 1, 2, 3, 5}) {
                tell("ant " + what, x.ant(ant, what));
            }
        }
    }

    private void acts() {
        for (int left = x.count(6); left > 0; left--) {
            tell("undo", x.undo());
            wall();
        }
        tell("undo", x.undo());
    }

    private void images() {
        for (int k = 0; k < 2; k++) {
            tell("restore", x.restore(k));
            wall();
        }
    }

    private void tape() {
        tell("wall", x.wall());
        tell("fault", x.fault());
        wall();
    }

    private void rows() {
        Check.read(x, SITTERS);
        for (int row = 0; row < 8; row++) {
            int item = 0;
            for (int i = 0; i < 40 && item >= 0; i++) {
                item = x.which(row, i, 1);
                tell("item", item);
            }
            tell("lane", x.set(row, 0, 70000));
            tell("items", x.drop(row));
        }
    }
}
