import java.math.BigInteger;
import java.util.ArrayList;
import java.util.Arrays;
import java.util.List;

/**
 * The document once more, in the most lengthy way and by other means than PensGo: all orders, all
 * layings, games played out, fractions of BigInteger. ModelTests compares the two.
 */
final class Model {
    private static final int[] ABOVE = {-1, 0, 0, 0, 3, 1, 2, 5};

    int[][] ways = new int[6][6];
    int[] hold = new int[6];
    int[] walk = {1, 1, 1, 1, 1, 1};
    int pull = 5;
    int hour = 0;
    List<int[]> pens = new ArrayList<>();
    private Model image = null;
    private final Object[] shelves = new Object[8];

    /** A row: its sort and its elements; a pen on a shelf is an int[] of kind and figure. */
    record Told(int sort, long[] elements) {
    }

    private Model copied() {
        Model m = new Model();
        for (int p = 0; p < 6; p++) {
            m.ways[p] = ways[p].clone();
        }
        m.hold = hold.clone();
        m.walk = walk.clone();
        m.pull = pull;
        m.hour = hour;
        for (int[] pen : pens) {
            m.pens.add(pen.clone());
        }
        return m;
    }

    private void take(Model m) {
        Model c = m.copied();
        ways = c.ways;
        hold = c.hold;
        walk = c.walk;
        pull = c.pull;
        hour = c.hour;
        pens = c.pens;
    }

    private static boolean out(int v, int least, int most) {
        return v < least || v > most;
    }

    private boolean noPen(int pen) {
        return out(pen, 0, pens.size() - 1);
    }

    private static boolean isUnder(int kind, int top) {
        for (int k = kind; k >= 0; k = ABOVE[k]) {
            if (k == top) {
                return true;
            }
        }
        return false;
    }

    // ---- draws, worths, costs: straight from the document's lines

    private int away(int kind, int figure, int p, int q) {
        switch (kind) {
            case 0: return Math.max(ways[p][q] - hold[p], 0);
            case 1: return away(0, figure, p, q) * 2;
            case 2: return away(0, figure, p, q) >> 1;
            case 3: return Math.max(away(0, figure, p, q) - figure, 0);
            case 4: return 0;
            case 5: return away(1, figure, p, q) + (figure % 6 == q ? 10 : 0);
            case 6: return hold[p] > 4 ? 0 : away(2, figure, p, q);
            default: return figure % 6 == p ? 0 : away(5, figure, p, q);
        }
    }

    private int drawn(int kind, int figure, int p, int q) {
        if (p != q) {
            return away(kind, figure, p, q);
        }
        int sum = 0;
        for (int other = 0; other < 6; other++) {
            sum += other == p ? 0 : away(kind, figure, p, other);
        }
        return 100 - sum;
    }

    private int rule(int kind, int figure, int p) {
        int greatest = 0;
        for (int q = 0; q < 6; q++) {
            greatest = q == p ? greatest : Math.max(greatest, away(kind, figure, p, q));
        }
        for (int q = 0; q < 6; q++) {
            if (q != p && greatest >= pull && away(kind, figure, p, q) == greatest) {
                return q;
            }
        }
        return p;
    }

    private static int worth(int kind, int figure) {
        int[] all = {2, 2 * (figure + 1), 1, 2, 9, 2 * (figure + 1) + 2, 0,
            2 * (figure + 1) + 2 + figure};
        return all[kind];
    }

    private static int costOf(int kind, int figure) {
        int[] all = {3, 3 + figure, 0, 6, 11, 7 + figure, 1, 14 + 2 * figure};
        return all[kind];
    }

    private int behindRule(int[] pen, int n) {
        return n == 0 ? pen[2] : rule(pen[0], pen[1], behindRule(pen, n - 1));
    }

    // ---- fractions

    private BigInteger parts(int kind, int figure, int from, int to, int n) {
        BigInteger[] back = new BigInteger[6];
        Arrays.fill(back, BigInteger.ZERO);
        back[to] = BigInteger.ONE;
        for (int h = 0; h < n; h++) {
            BigInteger[] earlier = new BigInteger[6];
            for (int p = 0; p < 6; p++) {
                earlier[p] = BigInteger.ZERO;
                for (int q = 0; q < 6; q++) {
                    BigInteger d = BigInteger.valueOf(drawn(kind, figure, p, q));
                    earlier[p] = earlier[p].add(d.multiply(back[q]));
                }
            }
            back = earlier;
        }
        return back[from];
    }

    private BigInteger meanOf(int place, int n) {
        BigInteger sum = BigInteger.ZERO;
        for (int[] pen : pens) {
            sum = sum.add(parts(pen[0], pen[1], pen[2], place, n));
        }
        return sum;
    }

    private static BigInteger whole(int n) {
        return BigInteger.valueOf(100).pow(n);
    }

    private static long least(BigInteger above, int n, int part) {
        BigInteger g = above.gcd(whole(n));
        return (part == 0 ? above : whole(n)).divide(g).longValueExact();
    }

    // ---- the face

    long office(int d) {
        if (out(d, 0, 7)) {
            return -1;
        }
        if (shelves[d] == null) {
            return -11;
        }
        if (!(shelves[d] instanceof Told told) || told.sort() != 0) {
            return -12;
        }
        StringBuilder text = new StringBuilder();
        for (long e : told.elements()) {
            text.append((char) (e & 255));
        }
        String form = "(([pw][0-9]{3}|[skm][0-9]{2}|g[0-9]{1,2}|[hu]);)+";
        if (!text.toString().matches(form)) {
            return -1000 - goesOnTo(text.toString(), form);
        }
        Model draft = copied();
        int at = 0;
        int many = 0;
        for (String s : text.toString().split(";")) {
            if (!draft.does(s)) {
                return -2000 - at;
            }
            at += s.length() + 1;
            many++;
        }
        take(draft);
        return many;
    }

    /** The least place behind which the text can't be made one of the form, whatever follows. */
    private static int goesOnTo(String text, String form) {
        String[] tails = {";", "0;", "00;", "000;", "h;"};
        for (int size = text.length(); size > 0; size--) {
            for (String tail : tails) {
                if ((text.substring(0, size) + tail).matches(form)) {
                    return size;
                }
            }
        }
        return 0;
    }

    private boolean does(String s) {
        int[] v = new int[4];
        for (int i = 1; i < s.length(); i++) {
            v[i] = s.charAt(i) - '0';
        }
        switch (s.charAt(0)) {
            case 'p':
                if (v[1] > 7 || v[3] > 5 || pens.size() > 9) {
                    return false;
                }
                return pens.add(new int[] {v[1], v[2], v[3]});
            case 'w': return way(v[1], v[2], v[3]) >= 0;
            case 's': return set(v[1], 0, v[2]) >= 0;
            case 'k': return set(v[1], 1, v[2]) >= 0;
            case 'g': return set(0, 2, Integer.parseInt(s.substring(1))) >= 0;
            case 'm': return move(v[1], v[2]) >= 0;
            case 'h': return hours(1) >= 0;
            default: return !pens.isEmpty() && pens.remove(pens.size() - 1) != null;
        }
    }

    long pen(int pen, int what) {
        if (noPen(pen) || out(what, 0, 5)) {
            return -1;
        }
        int[] p = pens.get(pen);
        int[] all = {p[0], p[1], p[2], worth(p[0], p[1]), rule(p[0], p[1], p[2]),
            drawn(p[0], p[1], p[2], p[2])};
        return all[what];
    }

    long comes(int d, int place) {
        if (out(d, 0, 7) || out(place, 0, 5)) {
            return -1;
        }
        if (!(shelves[d] instanceof int[] held)) {
            return shelves[d] == null ? -11 : -12;
        }
        if (pens.size() == 10) {
            return -2;
        }
        pens.add(new int[] {held[0], held[1], place});
        return pens.size() - 1;
    }

    long move(int pen, int place) {
        if (noPen(pen) || out(place, 0, 5)) {
            return -1;
        }
        int before = pens.get(pen)[2];
        pens.get(pen)[2] = place;
        return before;
    }

    long way(int from, int to, int v) {
        if (out(from, 0, 5) || out(to, 0, 5) || from == to || out(v, 0, 9)) {
            return -1;
        }
        int before = ways[from][to];
        ways[from][to] = v;
        return before;
    }

    long set(int place, int what, int v) {
        int[] least = {0, 1, 1};
        int[] most = {9, 9, 99};
        if (out(place, 0, 5) || out(what, 0, 2) || out(v, least[what], most[what])) {
            return -1;
        }
        int before = what == 0 ? hold[place] : what == 1 ? walk[place] : pull;
        if (what == 0) {
            hold[place] = v;
        } else if (what == 1) {
            walk[place] = v;
        } else {
            pull = v;
        }
        return before;
    }

    long hours(int n) {
        if (out(n, 1, 99)) {
            return -1;
        }
        if (hour + n > 999) {
            return -2;
        }
        for (int[] pen : pens) {
            pen[2] = behindRule(pen, n);
        }
        hour += n;
        return hour;
    }

    long draw(int pen, int place) {
        if (noPen(pen) || out(place, 0, 5)) {
            return -1;
        }
        int[] p = pens.get(pen);
        return drawn(p[0], p[1], p[2], place);
    }

    long odds(int pen, int place, int n, int part) {
        if (noPen(pen) || out(place, 0, 5) || out(n, 0, 8) || out(part, 0, 1)) {
            return -1;
        }
        int[] p = pens.get(pen);
        return least(parts(p[0], p[1], p[2], place, n), n, part);
    }

    long mean(int place, int n, int part) {
        if (out(place, 0, 5) || out(n, 0, 8) || out(part, 0, 1)) {
            return -1;
        }
        return least(meanOf(place, n), n, part);
    }

    long stays(int pen, int n, int part) {
        if (noPen(pen) || out(n, 0, 8) || out(part, 0, 1)) {
            return -1;
        }
        return least(BigInteger.valueOf(pen(pen, 5)).pow(n), n, part);
    }

    private int canOf(int[] pen, int n) {
        int bits = 0;
        for (int place = 0; place < 6; place++) {
            bits |= parts(pen[0], pen[1], pen[2], place, n).signum() << place;
        }
        return bits;
    }

    long can(int pen, int n) {
        return noPen(pen) || out(n, 0, 20) ? -1 : canOf(pens.get(pen), n);
    }

    long whose(int place, int n) {
        if (out(place, 0, 5) || out(n, 0, 20)) {
            return -1;
        }
        int bits = 0;
        for (int i = 0; i < pens.size(); i++) {
            bits += (canOf(pens.get(i), n) & 1 << place) == 0 ? 0 : 1 << i;
        }
        return bits;
    }

    long sink(int what) {
        if (out(what, 0, 1)) {
            return -1;
        }
        int[] more = new int[6];
        for (int p = 0; p < 6; p++) {
            for (int q = 0; q < 6; q++) {
                more[q] += ways[p][q];
                more[p] -= ways[p][q];
            }
        }
        int[] sorted = more.clone();
        Arrays.sort(sorted);
        for (int p = 0; p < 6; p++) {
            if (more[p] == sorted[what == 0 ? 5 : 0]) {
                return p;
            }
        }
        throw new IllegalStateException();
    }

    long heap(int n, int what) {
        if (out(n, 0, 50) || out(what, 0, 1)) {
            return -1;
        }
        int[] there = new int[6];
        for (int[] pen : pens) {
            there[behindRule(pen, n)]++;
        }
        int most = Arrays.stream(there).max().getAsInt();
        for (int p = 0; p < 6; p++) {
            if (there[p] == most) {
                return what == 0 ? p : most;
            }
        }
        throw new IllegalStateException();
    }

    long buy(int kind, int figure, int from, int to, int n, int m) {
        if (out(kind, 0, 7) || out(figure, 0, 9) || out(from, 0, 5) || out(to, 0, 5)
                || out(n, 0, 8) || out(m, 1, 99)) {
            return -1;
        }
        BigInteger lacks = whole(n).multiply(BigInteger.valueOf(m)).subtract(meanOf(to, n));
        BigInteger each = parts(kind, figure, from, to, n);
        if (lacks.signum() <= 0) {
            return 0;
        }
        if (each.signum() == 0) {
            return -4;
        }
        long k = lacks.add(each).subtract(BigInteger.ONE).divide(each).longValueExact();
        return k > 99 ? -4 : k;
    }

    long lay(int kind, int figure, int to, int n) {
        if (out(kind, 0, 7) || out(figure, 0, 9) || out(to, 0, 5) || out(n, 0, 8)) {
            return -1;
        }
        int best = 5;
        for (int from = 4; from >= 0; from--) {
            if (parts(kind, figure, from, to, n).compareTo(parts(kind, figure, best, to, n)) >= 0) {
                best = from;
            }
        }
        return best;
    }

    long bestKind(int pen, int n) {
        if (noPen(pen) || out(n, 0, 8)) {
            return -1;
        }
        int[] p = pens.get(pen);
        int best = 7;
        for (int kind = 6; kind >= 0; kind--) {
            if (parts(kind, p[1], p[2], p[2], n).compareTo(parts(best, p[1], p[2], p[2], n)) >= 0) {
                best = kind;
            }
        }
        return best;
    }

    long counts(int d, int n) {
        if (out(d, 0, 7) || out(n, 0, 20)) {
            return -1;
        }
        if (!(shelves[d] instanceof Told told)) {
            return shelves[d] == null ? -11 : -12;
        }
        if (told.elements().length != 6) {
            return -13;
        }
        if (pens.size() > 6) {
            return -3;
        }
        int[] can = new int[pens.size()];
        int all = 1;
        for (int i = 0; i < can.length; i++) {
            can[i] = canOf(pens.get(i), n);
            all *= 6;
        }
        int good = 0;
        for (int laying = 0; laying < all; laying++) {
            long[] there = new long[6];
            boolean may = true;
            int rest = laying;
            for (int i = 0; i < can.length; i++) {
                there[rest % 6]++;
                may &= (can[i] >> rest % 6 & 1) == 1;
                rest /= 6;
            }
            good += may && Arrays.equals(there, told.elements()) ? 1 : 0;
        }
        return good;
    }

    /** Sum and places of the first best of all orders of the places in bits. */
    private long[] orders(int bits, int minutes) {
        long[] best = {0};
        boolean none = true;
        for (int p = 0; p < 6; p++) {
            if ((bits >> p & 1) == 1) {
                int had = minutes + walk[p];
                long[] rest = orders(bits & ~(1 << p), had);
                int place = p;
                long sum = rest[0] + had * pens.stream().filter(x -> x[2] == place).count();
                if (none || sum < best[0]) {
                    best = new long[rest.length + 1];
                    System.arraycopy(rest, 1, best, 2, rest.length - 1);
                    best[0] = sum;
                    best[1] = p;
                    none = false;
                }
            }
        }
        return best;
    }

    long collect() {
        return orders((int) count(4), 0)[0];
    }

    long collected(int i) {
        long[] best = orders((int) count(4), 0);
        return out(i, 0, best.length - 2) ? -4 : best[i + 1];
    }

    long sign(int place, int n) {
        if (out(place, 0, 5) || out(n, 0, 8)) {
            return -1000000001;
        }
        BigInteger good = BigInteger.ZERO;
        BigInteger free = BigInteger.ZERO;
        for (int[] pen : pens) {
            BigInteger parts = parts(pen[0], pen[1], pen[2], place, n);
            good = isUnder(pen[0], 1) ? good.add(parts) : good;
            free = isUnder(pen[0], 2) ? free.add(parts) : free;
        }
        return good.compareTo(free);
    }

    private static int winningTake(int many, int t) {
        for (int take = 1; take <= t && take <= many; take++) {
            if (winningTake(many - take, t) < 0) {
                return take;
            }
        }
        return -4;
    }

    long keeps(int place, int t) {
        if (out(place, 0, 5) || out(t, 1, 9)) {
            return -1;
        }
        return winningTake((int) pens.stream().filter(x -> x[2] == place).count(), t);
    }

    long lent(int pen) {
        if (noPen(pen)) {
            return -1;
        }
        int[] p = pens.get(pen);
        for (int n = 2; n <= 50; n++) {
            if (behindRule(p, n) == p[2] && behindRule(p, 1) != p[2]) {
                return n;
            }
        }
        return -4;
    }

    long seeded(int n, int z, int place, int what) {
        if (out(n, 1, 40) || out(place, 0, 5) || out(what, 0, 1)) {
            return -1;
        }
        BigInteger seed = BigInteger.valueOf(z);
        BigInteger span = BigInteger.ONE.shiftLeft(32);
        int[] at = pens.stream().mapToInt(p -> p[2]).toArray();
        for (int h = 0; h < n; h++) {
            for (int i = 0; i < at.length; i++) {
                seed = seed.multiply(BigInteger.valueOf(1103515245))
                    .add(BigInteger.valueOf(12345)).mod(span);
                int number = seed.clearBit(31).intValueExact() / 65536 % 100;
                List<Integer> hundred = new ArrayList<>();
                for (int q = 0; q < 6; q++) {
                    int times = drawn(pens.get(i)[0], pens.get(i)[1], at[i], q);
                    for (int k = 0; k < times; k++) {
                        hundred.add(q);
                    }
                }
                at[i] = hundred.get(number);
            }
        }
        int answer = 0;
        for (int i = 0; i < at.length; i++) {
            int each = what == 0 ? 1 : worth(pens.get(i)[0], pens.get(i)[1]);
            answer += at[i] == place ? each : 0;
        }
        return answer;
    }

    long judge(int pen, int d) {
        if (noPen(pen) || out(d, 0, 7)) {
            return -1;
        }
        if (!(shelves[d] instanceof Told told)) {
            return shelves[d] == null ? -11 : -12;
        }
        long skipped = new long[] {Byte.MIN_VALUE, Short.MIN_VALUE, Integer.MIN_VALUE}[told.sort()];
        for (int i = 0; i < told.elements().length; i++) {
            long e = told.elements()[i];
            if (e != skipped && e != behindRule(pens.get(pen), i)) {
                return i;
            }
        }
        return -4;
    }

    long image() {
        image = copied();
        return pens.size();
    }

    long restore() {
        if (image == null) {
            return -3;
        }
        take(image);
        return pens.size();
    }

    long count(int what) {
        switch (what) {
            case 0: return pens.size();
            case 1: return hour;
            case 2: return pens.stream().mapToInt(p -> worth(p[0], p[1])).sum();
            case 3: return Arrays.stream(ways).flatMapToInt(Arrays::stream).sum();
            case 4: return pens.stream().mapToInt(p -> 1 << p[2]).reduce(0, (a, b) -> a | b);
            default: return -1;
        }
    }

    long keep(int d, int what, int k, int figure) {
        if (out(d, 0, 7) || out(what, 0, 1)) {
            return -1;
        }
        if (what == 1 && (out(k, 0, 7) || out(figure, 0, 9))) {
            return -1;
        }
        shelves[d] = what == 0 ? null : new int[] {k, figure};
        return 0;
    }

    long row(int d, int sort, int n) {
        if (out(d, 0, 7) || out(sort, 0, 2) || n > 100) {
            return -1;
        }
        if (n < 0) {
            return -14;
        }
        shelves[d] = new Told(sort, new long[n]);
        return 0;
    }

    long put(int d, int i, int v) {
        if (out(d, 0, 7)) {
            return -1;
        }
        if (!(shelves[d] instanceof Told told)) {
            return shelves[d] == null ? -11 : -12;
        }
        if (out(i, 0, told.elements().length - 1)) {
            return -13;
        }
        int bits = 8 << told.sort();
        told.elements()[i] = BigInteger.valueOf(v).add(BigInteger.ONE.shiftLeft(bits - 1))
            .mod(BigInteger.ONE.shiftLeft(bits)).subtract(BigInteger.ONE.shiftLeft(bits - 1))
            .longValueExact();
        return 0;
    }

    /** 1001 and 1002 as Checks.element has them. */
    long element(int d, int i) {
        if (out(d, 0, 7)) {
            return 1001;
        }
        if (!(shelves[d] instanceof Told told) || out(i, 0, told.elements().length - 1)) {
            return 1002;
        }
        return told.elements()[i];
    }

    long copy(int d, int i, int e, int j, int n) {
        if (out(d, 0, 7) || out(e, 0, 7)) {
            return -1;
        }
        if (shelves[d] == null || shelves[e] == null) {
            return -11;
        }
        if (!(shelves[d] instanceof Told from) || !(shelves[e] instanceof Told to)
                || from.sort() != to.sort()) {
            return -12;
        }
        if (n < 0 || i < 0 || j < 0 || (long) i + n > from.elements().length
                || (long) j + n > to.elements().length) {
            return -13;
        }
        long[] taken = from.elements().clone();
        for (int k = 0; k < n; k++) {
            to.elements()[j + k] = taken[i + k];
        }
        return n;
    }

    long cost(int d) {
        if (out(d, 0, 7)) {
            return -1;
        }
        if (!(shelves[d] instanceof int[] held)) {
            return shelves[d] == null ? -11 : -12;
        }
        return costOf(held[0], held[1]);
    }

    long toss(int d) {
        long cost = cost(d);
        if (cost < 0) {
            return cost;
        }
        int[] held = (int[]) shelves[d];
        if (held[0] == 6 || held[1] == 0) {
            return -15;
        }
        return held[0] == 5 ? 200 + cost : held[0] == 3 ? 100 + held[1] : held[1];
    }
}
