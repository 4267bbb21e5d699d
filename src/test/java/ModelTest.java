import java.util.ArrayList;
import java.util.List;
import java.util.Random;
import java.util.function.Consumer;

/**
 * Many walls and acts: what is done and foretold is as the Model has it (promises 9 to 32). An object is used for 512
 * calls at most, so each ANT is asked of on an object of its own, told and acted upon alike.
 */
public final class ModelTest {
    private static final Random DRAW = new Random(20261118);

    private final String text;
    private final String name;
    private final List<Consumer<AntBand>> acts = new ArrayList<>();

    private ModelTest(int run) {
        text = wall();
        name = "run " + run + " " + text + " ";
    }

    public static void main(String[] args) {
        for (int run = 0; run < 400; run++) {
            ModelTest test = new ModelTest(run);
            for (int turn = 0; turn < 3; turn++) {
                test.drawActs();
                test.foretold();
            }
        }
        Check.end("ModelTest");
    }

    private static int draw(int least, int most) {
        return least + DRAW.nextInt(most - least + 1);
    }

    private static String wall() {
        StringBuilder text = new StringBuilder("w").append(draw(1, draw(1, 99))).append(';');
        int greatest = draw(0, 1) == 0 ? 12 : 99;
        for (int k = draw(1, 5); k > 0; k--) {
            text.append('g').append(draw(0, greatest)).append(';');
        }
        for (int k = draw(1, 6); k > 0; k--) {
            text.append("ptqbu".charAt(draw(0, 4))).append(draw(1, draw(1, 20))).append(',');
            text.append(draw(0, 99)).append(',').append(draw(1, 9)).append(';');
        }
        return text.toString();
    }

    private AntBand made() {
        AntBand x = Check.told(text);
        for (Consumer<AntBand> act : acts) {
            act.accept(x);
        }
        return x;
    }

    private void drawActs() {
        for (int k = draw(0, 4); k > 0; k--) {
            AntBand x = made();
            int ant = draw(0, x.count(2) - 1);
            int pull = draw(0, x.count(1) - 1);
            int hundredth = draw(0, 99);
            switch (draw(0, 5)) {
                case 0 -> acts.add(y -> y.pull(pull, hundredth));
                case 1 -> acts.add(y -> y.letGo());
                case 2 -> acts.add(y -> y.place(ant, hundredth));
                case 3 -> acts.add(y -> y.step(ant, hundredth % 20 + 1));
                default -> someMinutes(x, draw(1, draw(1, 24)));
            }
        }
    }

    private void someMinutes(AntBand x, int n) {
        Model before = new Model(x);
        int kept = Math.min(24, x.count(6) + n);
        Model.Moment then = before.now.later(n);
        Check.due(name + "minutes", x.minutes(n), then.length());
        Check.due(name + "ACTS", x.count(6), kept);
        asDue(name + "minutes", x, then);
        acts.add(y -> y.minutes(n));
        if (draw(0, 2) == 0) {
            int back = draw(1, n);
            for (int k = 0; k < back; k++) {
                x.undo();
                acts.add(y -> y.undo());
            }
            asDue(name + "undone", x, before.now.later(n - back));
        }
    }

    private static void asDue(String name, AntBand x, Model.Moment then) {
        Check.due(name + " MINUTE", x.count(3), then.minute());
        Check.due(name + " LENGTH", x.count(4), then.length());
        for (int ant = 0; ant < then.walkers().length; ant++) {
            Check.due(name + " PART " + ant, x.ant(ant, 2), then.part(ant));
            Check.due(name + " ARRIVED " + ant, x.ant(ant, 3), then.there(ant) ? 1 : 0);
            Check.due(name + " INCHES " + ant, x.inches(ant), (long) then.part(ant) * then.length() / 1000000);
        }
    }

    private void foretold() {
        AntBand x = made();
        Model m = new Model(x);
        int n = draw(0, 99);
        Check.due(name + "band 0", x.band(n, 0), m.now.later(n).length());
        Check.due(name + "band 1", x.band(n, 1), m.arrivedBits(m.now.later(n)));
        Check.due(name + "leads", x.leads(n), m.leads(n));
        int seed = draw(1, 999999);
        Check.due(name + "drawn 0", x.drawn(n, seed, 0), m.drawn(n, seed)[0]);
        Check.due(name + "drawn 1", x.drawn(n, seed, 1), m.drawn(n, seed)[1]);
        for (int ant = 0; ant < m.now.walkers().length; ant++) {
            AntBand y = made();
            ofOne(name + "ant " + ant + " ", y, m, ant);
            ofOneThatWalks(name + "ant " + ant + " ", y, m, ant);
        }
    }

    private static void ofOne(String name, AntBand x, Model m, int ant) {
        int n = draw(1, 99);
        Check.due(name + "ahead", x.ahead(ant, n), m.now.later(n).part(ant));
        Check.due(name + "arrives", x.arrives(ant), m.arrives(m.now, ant, 200));
        Check.due(name + "passed", x.passed(ant, n), m.passed(ant, n));
        for (int other = 0; other < m.now.walkers().length; other++) {
            Check.due(name + "meet", x.meet(ant, other), other == ant ? Check.BAD : m.meet(ant, other));
        }
        int few = draw(0, 8);
        int p = draw(0, 10);
        long[] wind = m.wind(ant, few, p);
        Check.due(name + "wind above", x.wind(ant, few, p, 0), wind[0]);
        Check.due(name + "wind below", x.wind(ant, few, p, 1), wind[1]);
        int[] marks = new int[draw(1, 12)];
        for (int k = 0; k < marks.length; k++) {
            marks[k] = m.now.later(k + 1).part(ant) / 10000;
        }
        if (draw(0, 3) == 0) {
            marks[draw(0, marks.length - 1)] += draw(-1, 1);
        }
        Check.fill(x, 2, marks);
        for (int which = 0; which < 3; which++) {
            Check.due(name + "who " + which, x.who(ant, which, 2, 0, marks.length), m.who(ant, which, marks));
        }
        Check.due(name + "which", x.which(2, 0, marks.length), m.which(marks));
    }

    private static void ofOneThatWalks(String name, AntBand x, Model m, int ant) {
        int n = draw(1, 99);
        boolean there = m.now.there(ant);
        Check.due(name + "fast", x.fast(ant, n), there ? Check.STATE : m.fast(ant, n));
        Check.due(name + "pullFor", x.pullFor(ant, n), there ? Check.STATE : m.pullFor(ant, n));
        Check.due(name + "half", x.half(ant), there ? Check.STATE : m.half(ant));
        Check.due(name + "rest", x.rest(ant, n), there ? Check.STATE : m.rest(ant, n));
        int pulls = m.now.pulls().length;
        for (int late = 0; late < 2; late++) {
            int[] order = there ? new int[pulls + 1] : m.order(ant, late == 1);
            for (int k = -1; k < pulls; k++) {
                Check.due(name + "order", x.order(ant, late, k), there ? Check.STATE : order[k + 1]);
            }
        }
    }
}
