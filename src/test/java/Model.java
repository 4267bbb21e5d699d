import java.math.BigInteger;
import java.util.ArrayList;
import java.util.List;

/** The document's parts 2 and 3 once more, written another way, on what an AntBand tells of itself. */
final class Model {
    static final int NONE = Check.NONE;
    private static final BigInteger MILLION = BigInteger.valueOf(1000000);

    /** A moment: nothing in it is ever changed. */
    record Moment(int minute, int length, int[] pulls, Walker[] walkers) {
        Moment next(int stopped, int inches) {
            Walker[] gone = new Walker[walkers.length];
            for (int a = 0; a < gone.length; a++) {
                gone[a] = a == stopped ? walkers[a] : walkers[a].next(minute, length);
            }
            return new Moment(minute + 1, Math.min(length + inches, 9999), pulls, gone);
        }

        Moment next(int stopped) {
            return next(stopped, pulls[minute % pulls.length]);
        }

        Moment next() {
            return next(-1);
        }

        Moment later(int n) {
            return n == 0 ? this : next().later(n - 1);
        }

        Moment with(int ant, Walker one) {
            Walker[] others = walkers.clone();
            others[ant] = one;
            return new Moment(minute, length, pulls, others);
        }

        Moment slack() {
            return new Moment(minute, length < 2 ? 1 : length >> 1, pulls, walkers);
        }

        int part(int ant) {
            return walkers[ant].part;
        }

        boolean there(int ant) {
            return walkers[ant].there;
        }
    }

    record Walker(char sort, int step, int rest, int part, boolean there) {
        Walker next(int minute, int length) {
            if (there) {
                return this;
            }
            boolean nail = sort == 'b' || sort == 'u' && minute / 10 < rest;
            int inches = step;
            if (sort == 't' && minute / rest * rest == minute) {
                inches = 0;
            }
            if (sort == 'q') {
                inches += Integer.toString(part + 1000000).charAt(1) - '0';
            }
            int way = BigInteger.valueOf(inches).multiply(MILLION).divide(BigInteger.valueOf(length)).intValue();
            if (nail) {
                return way >= part ? at(0, true) : at(part - way, false);
            }
            return part + way >= 1000000 ? at(1000000, true) : at(part + way, false);
        }

        private Walker at(int where, boolean arrived) {
            return new Walker(sort, step, rest, where, arrived);
        }

        Walker sort(char other) {
            return new Walker(other, step, rest, part, there);
        }

        Walker step(int other) {
            return new Walker(sort, other, rest, part, there);
        }

        Walker rest(int other) {
            return new Walker(sort, step, other, part, there);
        }
    }

    static final String SORTS = "?ptqbu";
    final Moment now;

    Model(Moment now) {
        this.now = now;
    }

    Model(AntBand x) {
        int[] pulls = new int[x.count(1)];
        for (int k = 0; k < pulls.length; k++) {
            pulls[k] = x.pulls(k);
        }
        Walker[] walkers = new Walker[x.count(2)];
        for (int a = 0; a < walkers.length; a++) {
            walkers[a] = new Walker(SORTS.charAt(x.kind(a)), x.ant(a, 0), x.ant(a, 1), x.ant(a, 2), x.ant(a, 3) == 1);
        }
        now = new Moment(x.count(3), x.count(4), pulls, walkers);
    }

    int arrives(Moment from, int ant, int most) {
        Moment m = from;
        for (int n = 0; n <= most; n++, m = m.next()) {
            if (m.there(ant)) {
                return n;
            }
        }
        return NONE;
    }

    int arrivedBits(Moment m) {
        int bits = 0;
        for (int a = 0; a < m.walkers.length; a++) {
            bits += m.there(a) ? 1 << a : 0;
        }
        return bits;
    }

    int leads(int n) {
        Moment m = now.later(n);
        int best = m.walkers.length - 1;
        for (int a = best; a >= 0; a--) {
            best = m.part(a) >= m.part(best) ? a : best;
        }
        return best;
    }

    int meet(int a, int b) {
        boolean aBehind = now.part(a) < now.part(b);
        Moment m = now;
        for (int n = 0; n <= 200; n++, m = m.next()) {
            int gap = aBehind ? m.part(b) - m.part(a) : m.part(a) - m.part(b);
            if (gap <= 0) {
                return n;
            }
        }
        return NONE;
    }

    int fast(int ant, int n) {
        int best = NONE;
        for (int s = 20; s >= 1; s--) {
            if (now.with(ant, now.walkers[ant].step(s)).later(n).there(ant)) {
                best = s;
            }
        }
        return best;
    }

    int pullFor(int ant, int n) {
        int best = NONE;
        for (int inches = 0; inches <= 99; inches++) {
            Moment m = now;
            for (int k = 0; k < n; k++) {
                m = m.next(-1, inches);
            }
            best = m.there(ant) ? inches : best;
        }
        return best;
    }

    /** Behind how many, then the PULLS. */
    int[] order(int ant, boolean late) {
        List<int[]> orders = new ArrayList<>();
        permute(new ArrayList<>(), orders);
        int[] best = null;
        int bestN = 0;
        for (int[] order : orders) {
            int n = arrivesInOrder(ant, order);
            if (best == null || (late ? n > bestN : n < bestN)) {
                best = order;
                bestN = n;
            }
        }
        int[] answer = new int[best.length + 1];
        answer[0] = bestN > 200 ? NONE : bestN;
        System.arraycopy(best, 0, answer, 1, best.length);
        return answer;
    }

    private void permute(List<Integer> begun, List<int[]> orders) {
        if (begun.size() == now.pulls.length) {
            orders.add(begun.stream().mapToInt(k -> k).toArray());
            return;
        }
        for (int k = 0; k < now.pulls.length; k++) {
            if (!begun.contains(k)) {
                begun.add(k);
                permute(begun, orders);
                begun.remove(begun.size() - 1);
            }
        }
    }

    private int arrivesInOrder(int ant, int[] order) {
        Moment m = new Moment(now.minute, now.length, now.pulls, new Walker[] {now.walkers[ant]});
        for (int n = 0; n < 200; n++) {
            m = m.next(-1, now.pulls[order[n % order.length]]);
            if (m.there(0)) {
                return n + 1;
            }
        }
        return 201;
    }

    int half(int ant) {
        Moment m = now;
        for (int n = 0; n <= 200; n++, m = m.next()) {
            if ((long) (m.part(ant) - 500000) * (now.part(ant) - 500000) <= 0) {
                return n;
            }
        }
        return NONE;
    }

    int rest(int ant, int n) {
        int best = 9;
        int greatest = -1;
        for (int r = 9; r >= 1; r--) {
            int part = now.with(ant, now.walkers[ant].rest(r)).later(n).part(ant);
            if (part >= greatest) {
                greatest = part;
                best = r;
            }
        }
        return best;
    }

    int passed(int ant, int n) {
        int bits = 0;
        for (int a = 0; a < now.walkers.length; a++) {
            for (int k = 1; k <= n && now.part(a) <= now.part(ant); k++) {
                Moment m = now.later(k);
                if (m.part(a) > m.part(ant)) {
                    bits |= 1 << a;
                    break;
                }
            }
        }
        return bits;
    }

    static boolean isSo(Moment from, int ant, int[] marks) {
        boolean so = true;
        for (int k = 0; k < marks.length; k++) {
            so &= from.later(k + 1).part(ant) / 10000 == marks[k];
        }
        return so;
    }

    int who(int ant, int which, int[] marks) {
        int bits = 0;
        Walker one = now.walkers[ant];
        int most = new int[] {5, 20, 9}[which];
        for (int v = 1; v <= most; v++) {
            Walker other = which == 0 ? one.sort(SORTS.charAt(v)) : which == 1 ? one.step(v) : one.rest(v);
            bits |= isSo(now.with(ant, other), ant, marks) ? 1 << v : 0;
        }
        return bits;
    }

    int which(int[] marks) {
        int bits = 0;
        for (int a = 0; a < now.walkers.length; a++) {
            bits |= isSo(now, a, marks) ? 1 << a : 0;
        }
        return bits;
    }

    /** Above and below. */
    long[] wind(int ant, int n, int p) {
        BigInteger above = cases(now, ant, n, p);
        BigInteger below = BigInteger.TEN.pow(n);
        BigInteger common = above.gcd(below);
        return new long[] {above.divide(common).longValue(), below.divide(common).longValue()};
    }

    private BigInteger cases(Moment m, int ant, int n, int p) {
        if (n == 0) {
            return m.there(ant) ? BigInteger.ONE : BigInteger.ZERO;
        }
        BigInteger stays = cases(m.next(ant), ant, n - 1, p).multiply(BigInteger.valueOf(p));
        return stays.add(cases(m.next(), ant, n - 1, p).multiply(BigInteger.valueOf(10 - p)));
    }

    /** How many ARRIVED, and LENGTH. */
    int[] drawn(int n, int seed) {
        Moment m = now;
        BigInteger x = BigInteger.valueOf(seed);
        for (int k = 0; k < n; k++) {
            x = x.multiply(BigInteger.valueOf(16807)).mod(BigInteger.valueOf(2147483647));
            m = x.mod(BigInteger.valueOf(4)).signum() == 0 ? m.slack() : m;
            m = m.next(x.mod(BigInteger.valueOf(m.walkers.length)).intValue());
        }
        return new int[] {Integer.bitCount(arrivedBits(m)), m.length};
    }
}
