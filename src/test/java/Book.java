import java.util.ArrayDeque;
import java.util.ArrayList;
import java.util.Arrays;
import java.util.Deque;
import java.util.List;
import java.util.Map;
import java.util.Set;
import java.util.TreeMap;

/**
 * The whole document once more, another way: a call, by its name and numbers, is answered from what it says. A WALL is
 * never changed here but replaced, a refusal leaves a call wherever it stands; texts are read by Reader, and what is
 * foretold comes from Model.
 */
final class Book {
    private static final Set<String> TELL_STATUS = Set.of("row", "set", "copy", "drop", "who", "which", "as");
    private static final Map<Integer, Integer> KIND_ABOVE = Map.of(1, 0, 2, 1, 3, 1, 4, 0, 5, 4);
    private static final List<Map<Integer, Integer>> BODIES = List.of(
            Map.of(0, 10, 1, 11, 2, 12, 4, 13, 5, 14), Map.of(0, 20, 1, 21, 2, 24, 3, 22, 4, 23));

    private record Row(int lane, int[] items) {
    }

    private record Wall(Model.Moment moment, int[] froms) {
        Wall at(Model.Moment other) {
            return new Wall(other, froms);
        }
    }

    private static final class Refused extends RuntimeException {
        private static final long serialVersionUID = 1;
        private final int answer;

        Refused(int answer) {
            super(null, null, false, false);
            this.answer = answer;
        }
    }

    private final Map<Integer, Row> rows = new TreeMap<>();
    private final Deque<Wall> acts = new ArrayDeque<>();
    private final Wall[] images = new Wall[2];
    private final List<Integer> trace = new ArrayList<>();
    private Wall wall;
    private String tape = "";
    private int fault;
    private int status;

    long answer(String call, int... a) {
        try {
            long answer = answered(call, a);
            status = TELL_STATUS.contains(call) ? 0 : status;
            return answer;
        } catch (Refused no) {
            status = no.answer < -1000010 ? -1000010 - no.answer : status;
            return no.answer;
        }
    }

    /** For what a test wants to know ahead; null: no WALL. */
    Model.Moment moment() {
        return wall == null ? null : wall.moment;
    }

    private long answered(String call, int[] a) {
        switch (call) {
            case "row": case "set": case "copy": case "drop":
                return ofRows(call, a);
            case "feed": case "wall": case "fault": case "undo":
                return told(call, a);
            case "minutes": case "pull": case "letGo": case "place": case "step": case "ant": case "pulls":
                return done(call, a);
            case "ahead": case "band": case "arrives": case "leads": case "meet": case "passed": case "inches":
                return foretold(call, a);
            case "fast": case "pullFor": case "order": case "half": case "rest":
                return foretoldOfOneThatWalks(call, a);
            case "who": case "which": case "wind": case "drawn":
                return guessed(call, a);
            case "image": case "restore":
                return kept(call, a[0]);
            default:
                return asked(call, a);
        }
    }

    private static void need(boolean so, int refusal) {
        if (!so) {
            throw new Refused(refusal);
        }
    }

    private static void good(boolean so) {
        need(so, Check.BAD);
    }

    private static boolean in(int v, int least, int most) {
        return least <= v && v <= most;
    }

    private void needWall() {
        need(wall != null, Check.STATE);
    }

    private boolean isAnt(int ant) {
        return wall != null && in(ant, 0, wall.froms.length - 1);
    }

    private Model.Walker walker(int ant) {
        return wall.moment.walkers()[ant];
    }

    private static boolean fits(Row row, int i, int n) {
        return i >= 0 && n >= 0 && (long) i + n <= row.items.length;
    }

    private long ofRows(String call, int[] a) {
        good(in(a[0], 0, 7));
        Row row = rows.get(a[0]);
        switch (call) {
            case "row":
                good(in(a[1], 0, 2) && a[2] <= 40);
                need(a[2] >= 0, Check.SIZE);
                rows.put(a[0], new Row(a[1], new int[a[2]]));
                return a[2];
            case "set":
                need(row != null, Check.NULL);
                need(fits(row, a[1], 1), Check.PLACE);
                int gone = 32 - (8 << row.lane);
                row.items[a[1]] = a[2] << gone >> gone;
                return row.items[a[1]];
            case "copy":
                good(in(a[2], 0, 7));
                Row other = rows.get(a[2]);
                need(row != null && other != null, Check.NULL);
                need(row.lane == other.lane, Check.STORE);
                need(fits(row, a[1], a[4]) && fits(other, a[3], a[4]), Check.PLACE);
                int[] were = row.items.clone();
                for (int k = 0; k < a[4]; k++) {
                    other.items[a[3] + k] = were[a[1] + k];
                }
                return a[4];
            default:
                need(row != null, Check.NULL);
                return rows.remove(a[0]).items.length;
        }
    }

    private long told(String call, int[] a) {
        switch (call) {
            case "feed":
                good(in(a[0], 0, 255));
                need(tape.length() < 120, Check.FULL);
                tape += (char) a[0];
                return tape.length();
            case "wall":
                String text = tape;
                tape = "";
                Reader read = Reader.of(text);
                if (read.fault != 0) {
                    fault = read.fault;
                    return read.answer();
                }
                wall = wallOf(text);
                acts.clear();
                return wall.froms.length;
            case "fault":
                return fault;
            default:
                need(!acts.isEmpty(), Check.STATE);
                wall = acts.pop();
                return acts.size();
        }
    }

    private static Wall wallOf(String text) {
        int length = 0;
        List<Integer> pulls = new ArrayList<>();
        List<Integer> froms = new ArrayList<>();
        List<Model.Walker> walkers = new ArrayList<>();
        for (String one : text.split(";")) {
            int[] numbers = Arrays.stream(one.substring(1).split(",")).mapToInt(Integer::parseInt).toArray();
            if (one.charAt(0) == 'w') {
                length = numbers[0];
            } else if (one.charAt(0) == 'g') {
                pulls.add(numbers[0]);
            } else {
                froms.add(numbers[1]);
                walkers.add(new Model.Walker(one.charAt(0), numbers[0], numbers[2], numbers[1] * 10000, false));
            }
        }
        Model.Walker[] all = walkers.toArray(new Model.Walker[0]);
        return new Wall(new Model.Moment(0, length, ints(pulls), all), ints(froms));
    }

    private static int[] ints(List<Integer> list) {
        return list.stream().mapToInt(v -> v).toArray();
    }

    private void act(Model.Moment then) {
        acts.push(wall);
        if (acts.size() > 24) {
            acts.removeLast();
        }
        wall = wall.at(then);
    }

    private long done(String call, int[] a) {
        switch (call) {
            case "minutes":
                needWall();
                good(in(a[0], 1, 24));
                need(wall.moment.minute() + a[0] <= 999, Check.FULL);
                for (int m = 0; m < a[0]; m++) {
                    act(wall.moment.next());
                }
                return wall.moment.length();
            case "letGo":
                needWall();
                act(wall.moment.slack());
                return wall.moment.length();
            case "pull":
                good(wall != null && in(a[0], 0, wall.moment.pulls().length - 1) && in(a[1], 0, 99));
                int was = wall.moment.pulls()[a[0]];
                act(pulledBy(a[0], a[1]));
                return was;
            case "pulls":
                good(a[0] >= 0);
                return wall != null && a[0] < wall.moment.pulls().length ? wall.moment.pulls()[a[0]] : Check.NONE;
            default:
                return doneToOne(call, a[0], a[1]);
        }
    }

    private Model.Moment pulledBy(int pull, int inches) {
        Model.Moment m = wall.moment;
        int[] pulls = m.pulls().clone();
        pulls[pull] = inches;
        return new Model.Moment(m.minute(), m.length(), pulls, m.walkers());
    }

    private long doneToOne(String call, int ant, int v) {
        good(isAnt(ant));
        Model.Walker one = walker(ant);
        switch (call) {
            case "place":
                good(in(v, 0, 99));
                need(!one.there(), Check.STATE);
                act(wall.moment.with(ant, new Model.Walker(one.sort(), one.step(), one.rest(), v * 10000, false)));
                return one.part() / 10000;
            case "step":
                good(in(v, 1, 20));
                act(wall.moment.with(ant, one.step(v)));
                return one.step();
            default:
                good(in(v, 0, 5));
                int gait = one.there() ? 0 : gait(one);
                return new int[] {one.step(), one.rest(), one.part(), one.there() ? 1 : 0, 100 + gait,
                    wall.froms[ant]}[v];
        }
    }

    private int gait(Model.Walker one) {
        int minute = wall.moment.minute();
        switch (one.sort()) {
            case 't':
                return minute % one.rest() == 0 ? 0 : one.step();
            case 'q':
                return one.step() + one.part() / 100000;
            case 'b':
                return -one.step();
            case 'u':
                return minute < 10 * one.rest() ? -one.step() : one.step();
            default:
                return one.step();
        }
    }

    private Model model() {
        return new Model(wall.moment);
    }

    private long foretold(String call, int[] a) {
        switch (call) {
            case "band":
                needWall();
                good(in(a[0], 0, 99) && in(a[1], 0, 1));
                Model.Moment then = wall.moment.later(a[0]);
                return a[1] == 0 ? then.length() : model().arrivedBits(then);
            case "leads":
                needWall();
                good(in(a[0], 0, 99));
                return model().leads(a[0]);
            case "meet":
                good(isAnt(a[0]) && isAnt(a[1]) && a[0] != a[1]);
                return model().meet(a[0], a[1]);
            case "ahead":
                good(isAnt(a[0]) && in(a[1], 0, 99));
                return wall.moment.later(a[1]).part(a[0]);
            case "passed":
                good(isAnt(a[0]) && in(a[1], 1, 99));
                return model().passed(a[0], a[1]);
            case "arrives":
                good(isAnt(a[0]));
                return model().arrives(wall.moment, a[0], 200);
            default:
                good(isAnt(a[0]));
                return (long) walker(a[0]).part() * wall.moment.length() / 1000000;
        }
    }

    private long foretoldOfOneThatWalks(String call, int[] a) {
        boolean minutes = !call.equals("order") && !call.equals("half");
        good(isAnt(a[0]) && (!minutes || in(a[1], 1, 99)));
        good(!call.equals("order") || in(a[1], 0, 1) && a[2] >= -1);
        need(!walker(a[0]).there(), Check.STATE);
        switch (call) {
            case "fast":
                return model().fast(a[0], a[1]);
            case "pullFor":
                return model().pullFor(a[0], a[1]);
            case "half":
                return model().half(a[0]);
            case "rest":
                return model().rest(a[0], a[1]);
            default:
                int[] best = model().order(a[0], a[1] == 1);
                return a[2] < best.length - 1 ? best[a[2] + 1] : Check.NONE;
        }
    }

    private long guessed(String call, int[] a) {
        switch (call) {
            case "who":
                good(isAnt(a[0]) && in(a[1], 0, 2) && in(a[2], 0, 7) && in(a[4], 1, 12));
                return model().who(a[0], a[1], marks(a[2], a[3], a[4]));
            case "which":
                needWall();
                good(in(a[0], 0, 7) && in(a[2], 1, 12));
                return model().which(marks(a[0], a[1], a[2]));
            case "wind":
                good(isAnt(a[0]) && in(a[1], 0, 8) && in(a[2], 0, 10) && in(a[3], 0, 1));
                return model().wind(a[0], a[1], a[2])[a[3]];
            default:
                needWall();
                good(in(a[0], 0, 99) && in(a[1], 1, 999999) && in(a[2], 0, 1));
                return model().drawn(a[0], a[1])[a[2]];
        }
    }

    private int[] marks(int number, int i, int n) {
        Row row = rows.get(number);
        need(row != null, Check.NULL);
        need(fits(row, i, n), Check.PLACE);
        return Arrays.copyOfRange(row.items, i, i + n);
    }

    private long kept(String call, int k) {
        good(in(k, 0, 1));
        if (call.equals("image")) {
            needWall();
            images[k] = wall;
        } else {
            need(images[k] != null, Check.STATE);
            wall = images[k];
            acts.clear();
        }
        return 1;
    }

    private long asked(String call, int[] a) {
        switch (call) {
            case "kind":
                good(isAnt(a[0]));
                return kind(a[0]);
            case "as":
                good(isAnt(a[0]) && in(a[1], 0, 5));
                need(isOf(kind(a[0]), a[1]), Check.KIND);
                return a[0];
            case "ask":
                good(isAnt(a[0]) && in(a[1], 0, 1));
                trace.clear();
                return ask(a[0], a[1]);
            case "trace":
                return in(a[0], 0, Math.min(trace.size(), 16) - 1) ? trace.get(a[0]) : Check.NONE;
            case "count":
                good(in(a[0], 0, 7));
                return counts()[a[0]];
            case "status":
                return status;
            default:
                throw new IllegalStateException(call);
        }
    }

    private int[] counts() {
        boolean is = wall != null;
        return new int[] {
            rows.size(), is ? wall.moment.pulls().length : 0, is ? wall.froms.length : 0, is ? wall.moment.minute() : 0,
            is ? wall.moment.length() : 0, is ? model().arrivedBits(wall.moment) : 0, acts.size(), tape.length(),
        };
    }

    private int kind(int ant) {
        return Model.SORTS.indexOf(walker(ant).sort());
    }

    private static boolean isOf(int kind, int asked) {
        return kind == asked || kind != 0 && isOf(KIND_ABOVE.get(kind), asked);
    }

    private int ask(int ant, int what) {
        int kind = kind(ant);
        while (!BODIES.get(what).containsKey(kind)) {
            kind = KIND_ABOVE.get(kind);
        }
        return body(ant, BODIES.get(what).get(kind));
    }

    private int body(int ant, int number) {
        trace.add(number);
        switch (number) {
            case 10: return walker(ant).step();
            case 11: return body(ant, 10) + ask(ant, 1);
            case 12: return 0 - body(ant, 11);
            case 13: return body(ant, 10) - 100;
            case 14: return 2 * body(ant, 13);
            case 20: return ant;
            case 21: return body(ant, 20) + walker(ant).part() / 10000;
            case 22: return body(ant, 21) - 1000;
            case 23: return body(ant, 20) - ask(ant, 0);
            default: return 2 * body(ant, 21);
        }
    }
}
