import java.math.BigInteger;
import java.util.ArrayDeque;
import java.util.ArrayList;
import java.util.Deque;
import java.util.LinkedHashMap;
import java.util.LinkedHashSet;
import java.util.List;
import java.util.Map;
import java.util.Set;
import java.util.TreeMap;

/**
 * The document once more, in other ways than the class's own and with the Java library: the tests that draw calls by
 * chance ask both.
 */
final class ReferenceDesk {
    /** A fraction of any length, always in lowest terms. */
    record Ratio(BigInteger above, BigInteger below) {
        static final Ratio ZERO = of(0);
        static final Ratio ONE = of(1);

        static Ratio of(long n) {
            return new Ratio(BigInteger.valueOf(n), BigInteger.ONE);
        }

        static Ratio of(long a, long b) {
            return of(BigInteger.valueOf(a), BigInteger.valueOf(b));
        }

        static Ratio of(BigInteger a, BigInteger b) {
            BigInteger g = a.gcd(b);
            if (b.signum() < 0) {
                g = g.negate();
            }
            return new Ratio(a.divide(g), b.divide(g));
        }

        Ratio plus(Ratio o) {
            return of(above.multiply(o.below).add(o.above.multiply(below)), below.multiply(o.below));
        }

        Ratio minus(Ratio o) {
            return plus(new Ratio(o.above.negate(), o.below));
        }

        Ratio times(Ratio o) {
            return of(above.multiply(o.above), below.multiply(o.below));
        }

        Ratio over(Ratio o) {
            return of(above.multiply(o.below), below.multiply(o.above));
        }

        boolean isZero() {
            return above.signum() == 0;
        }

        int compare(Ratio o) {
            return above.multiply(o.below).compareTo(o.above.multiply(below));
        }
    }

    /** What a chart remembers, written out: kind 1 the signs, latest first; kind 2 u; 3 u, d; 4 z; 5 r, t. */
    static final class Chart implements Cloneable {
        int kind;
        int[] num;
        int[] memory;
        int calls;
        int turns;
        int why;
        List<Integer> log = new ArrayList<>();

        Chart copy() {
            Chart o = new Chart();
            o.kind = kind;
            o.num = num;
            o.memory = memory.clone();
            o.calls = calls;
            o.turns = turns;
            o.why = why;
            o.log = new ArrayList<>(log);
            return o;
        }

        int[] firstMemory() {
            return switch (kind) {
                case 0 -> new int[0];
                case 1 -> new int[num[4] - 1];
                case 2, 4 -> new int[1];
                case 3 -> new int[2];
                default -> new int[] {0, num[1]};
            };
        }

        int encode(int[] m) {
            int n = 0;
            switch (kind) {
                case 1:
                    int weight = 1;
                    for (int sign : m) {
                        n += weight * sign;
                        weight *= 3;
                    }
                    return n;
                case 2:
                    return m[0];
                case 3:
                    return m[0] * (num[1] + 1) + m[1];
                case 4:
                    return m[0] + 4 * num[1];
                case 5:
                    return m[0] * (num[1] + 1) + m[1];
                default:
                    return 0;
            }
        }

        /** All memories by their number: found by trying them all, so that the numbers are looked up, not taken apart. */
        Map<Integer, int[]> all() {
            Map<Integer, int[]> byNumber = new TreeMap<>();
            int[] low = new int[firstMemory().length];
            int[] high = new int[low.length];
            for (int i = 0; i < low.length; i++) {
                low[i] = kind == 4 ? -4 * num[1] : 0;
                high[i] = switch (kind) {
                    case 1 -> 2;
                    case 2, 3 -> num[1];
                    case 4 -> 4 * num[1];
                    default -> i == 0 ? num[2] - 1 : num[1];
                };
            }
            fill(byNumber, low, high, low.clone(), 0);
            return byNumber;
        }

        private void fill(Map<Integer, int[]> to, int[] low, int[] high, int[] m, int i) {
            if (i == m.length) {
                to.put(encode(m), m.clone());
                return;
            }
            for (int v = low[i]; v <= high[i]; v++) {
                m[i] = v;
                fill(to, low, high, m, i + 1);
            }
        }

        /** The why of a call, or 0 and the memory is the next one. */
        int goOn(int[] m, int score) {
            switch (kind) {
                case 0:
                    return outside(score);
                case 1:
                    return runs(m, score);
                case 2:
                    m[0] = Math.max(0, m[0] + score - num[0]);
                    return m[0] > num[1] ? 5 : 0;
                case 3:
                    m[0] = Math.max(0, m[0] + score - num[0]);
                    m[1] = Math.max(0, m[1] - score - num[0]);
                    return m[0] > num[1] ? 5 : m[1] > num[1] ? 6 : 0;
                case 4:
                    double z = (num[0] * 4.0 * score + (8.0 - num[0]) * m[0]) / 8.0;
                    m[0] = (int) Math.rint(z);
                    return m[0] > 4 * num[1] ? 2 : m[0] < -4 * num[1] ? 1 : 0;
                default:
                    return counts(m, score);
            }
        }

        private int outside(int score) {
            return score < num[0] ? 1 : score > num[1] ? 2 : 0;
        }

        private int runs(int[] m, int score) {
            int why = outside(score);
            if (why != 0) {
                return why;
            }
            int sign = score > num[2] ? 1 : score < -num[2] ? 2 : 0;
            int[] seen = new int[3];
            seen[sign]++;
            for (int s : m) {
                seen[s]++;
            }
            if (seen[1] >= num[3]) {
                return 3;
            }
            if (seen[2] >= num[3]) {
                return 4;
            }
            for (int i = m.length - 1; i > 0; i--) {
                m[i] = m[i - 1];
            }
            if (m.length > 0) {
                m[0] = sign;
            }
            return 0;
        }

        private int counts(int[] m, int score) {
            if (m[1] < num[1]) {
                m[1]++;
            }
            if (score > num[0]) {
                m[0] = m[1] < num[1] ? m[0] + 1 : 0;
                if (m[0] == num[2]) {
                    return 7;
                }
                m[1] = 0;
            }
            return 0;
        }

        int next(int state, int score) {
            int[] m = all().get(state).clone();
            int why = goOn(m, score);
            return why != 0 ? -10 - why : encode(m);
        }

        int get(int score) {
            turns++;
            int reason = goOn(memory, score);
            if (reason != 0) {
                why = reason;
                calls++;
                memory = firstMemory();
                log.clear();
                return 1;
            }
            log.add(score);
            if (log.size() > 40) {
                log.remove(0);
            }
            return 0;
        }

        int first() {
            return encode(firstMemory());
        }
    }

    static final class World {
        int[][] books = new int[4][41];
        Chart[] charts = new Chart[6];
        int[][] sheets = new int[4][];

        World copy() {
            World o = new World();
            for (int i = 0; i < 4; i++) {
                o.books[i] = books[i].clone();
                o.sheets[i] = sheets[i] == null ? null : sheets[i].clone();
            }
            for (int i = 0; i < 6; i++) {
                o.charts[i] = charts[i] == null ? null : charts[i].copy();
            }
            return o;
        }
    }

    private World world = new World();
    private final World[] images = new World[2];
    private Ratio answer = Ratio.ZERO;
    private Ratio before = Ratio.ZERO;

    private static boolean in(int n, int a, int b) {
        return a <= n && n <= b;
    }

    private Chart at(int c) {
        return in(c, 0, 5) ? world.charts[c] : null;
    }

    private int[] ready(int b) {
        return in(b, 0, 3) && whole(b) > 0 ? world.books[b] : null;
    }

    private int tell(Ratio r) {
        if (r == null) {
            return 0;
        }
        before = answer;
        answer = r;
        return 1;
    }

    boolean lots(int book, int score, int n) {
        if (!in(book, 0, 3) || !in(score, -20, 20) || !in(n, 0, 99)) {
            return false;
        }
        world.books[book][score + 20] = n;
        return true;
    }

    int lot(int book, int score) {
        return in(book, 0, 3) && in(score, -20, 20) ? world.books[book][score + 20] : -1;
    }

    int whole(int book) {
        if (!in(book, 0, 3)) {
            return -1;
        }
        int n = 0;
        for (int l : world.books[book]) {
            n += l;
        }
        return n;
    }

    boolean add(int a, int b, int to) {
        if (!in(a, 0, 3) || !in(b, 0, 3) || !in(to, 0, 3)) {
            return false;
        }
        Map<Integer, Integer> sums = new TreeMap<>();
        for (int x = -20; x <= 20; x++) {
            for (int y = -20; y <= 20; y++) {
                int n = lot(a, x) * lot(b, y);
                if (n > 0) {
                    sums.merge(x + y, n, Integer::sum);
                }
            }
        }
        for (Map.Entry<Integer, Integer> e : sums.entrySet()) {
            if (!in(e.getKey(), -20, 20) || e.getValue() > 99) {
                return false;
            }
        }
        world.books[to] = new int[41];
        sums.forEach((score, n) -> world.books[to][score + 20] = n);
        return true;
    }

    int chart(int c, int kind, int p, int q, int r, int s, int t) {
        boolean lines = in(p, -20, 20) && in(q, -20, 20) && p <= q;
        boolean good = switch (kind) {
            case 0 -> lines;
            case 1 -> lines && in(r, 0, 19) && in(s, 1, 4) && in(t, 1, 4) && s <= t;
            case 2 -> in(p, -20, 20) && in(q, 0, 20);
            case 3 -> in(p, 0, 20) && in(q, 0, 4);
            case 4 -> in(p, 1, 8) && in(q, 0, 3);
            case 5 -> in(p, -20, 20) && in(q, 1, 8) && in(r, 1, 3);
            default -> false;
        };
        if (!good || !in(c, 0, 5)) {
            return -1;
        }
        Chart made = new Chart();
        made.kind = kind;
        made.num = new int[] {p, q, r, s, t};
        made.memory = made.firstMemory();
        world.charts[c] = made;
        return made.all().size();
    }

    int of(int c, int what) {
        Chart x = at(c);
        if (x == null) {
            return -1;
        }
        return switch (what) {
            case 0 -> x.kind;
            case 1 -> x.encode(x.memory);
            case 2 -> x.log.size();
            case 3 -> x.calls;
            case 4 -> x.turns;
            case 5 -> x.why;
            default -> -1;
        };
    }

    int step(int c, int state, int score) {
        Chart x = at(c);
        return x != null && x.all().containsKey(state) && in(score, -20, 20) ? x.next(state, score) : -1;
    }

    int turn(int c, int score) {
        Chart x = at(c);
        return x != null && in(score, -20, 20) ? x.get(score) : -1;
    }

    int anew(int c) {
        Chart x = at(c);
        if (x == null) {
            return -1;
        }
        int was = x.encode(x.memory);
        x.memory = x.firstMemory();
        x.log.clear();
        return was;
    }

    int log(int c, int i) {
        Chart x = at(c);
        return x != null && in(i, 0, x.log.size() - 1) ? x.log.get(i) : -100;
    }

    boolean sheet(int s, int n) {
        if (!in(s, 0, 3) || !in(n, -1, 40)) {
            return false;
        }
        world.sheets[s] = n == -1 ? null : new int[n];
        return true;
    }

    boolean put(int s, int i, int score) {
        if (!in(s, 0, 3) || world.sheets[s] == null || !in(i, 0, world.sheets[s].length - 1) || !in(score, -20, 20)) {
            return false;
        }
        world.sheets[s][i] = score;
        return true;
    }

    int run(int c, int s, int from, int n) {
        if (n < 0 || from < 0 || !in(s, 0, 3) || at(c) == null) {
            return -2;
        }
        if (world.sheets[s] == null) {
            return -3;
        }
        int got = 0;
        int calls = 0;
        for (long i = from; i < (long) from + n && i < world.sheets[s].length; i++) {
            calls += at(c).get(world.sheets[s][(int) i]);
            got++;
        }
        return got == n ? calls : -100 - got;
    }

    int draw(int c, int book, int seed, int n) {
        Chart x = at(c);
        int[] b = ready(book);
        if (x == null || b == null || !in(n, 1, 200)) {
            return -1;
        }
        List<Integer> laidOut = new ArrayList<>();
        for (int i = 0; i < 41; i++) {
            for (int k = 0; k < b[i]; k++) {
                laidOut.add(i - 20);
            }
        }
        int calls = 0;
        int g = seed;
        for (int i = 0; i < n; i++) {
            g = g * 1103515245 + 12345;
            calls += x.get(laidOut.get((g >>> 8) % laidOut.size()));
        }
        return calls;
    }

    /** Nodes are lists of states, one a chart; from each, what the lots of a book lead to; a call leads to null. */
    private static final class Graph {
        final Chart[] charts;
        final List<Map<Integer, int[]>> memories = new ArrayList<>();
        final int[] book;
        final Set<List<Integer>> nodes = new LinkedHashSet<>();
        final Map<List<Integer>, Map<List<Integer>, Ratio>> chances = new LinkedHashMap<>();
        /** The chances that just the first chart calls, both call at once, just the other one. */
        final Map<List<Integer>, Ratio[]> calls = new LinkedHashMap<>();

        Graph(int[] book, List<List<Integer>> starts, Chart... charts) {
            this.book = book;
            this.charts = charts;
            for (Chart x : charts) {
                memories.add(x.all());
            }
            Deque<List<Integer>> open = new ArrayDeque<>(starts);
            nodes.addAll(starts);
            while (!open.isEmpty()) {
                visit(open);
            }
        }

        private void visit(Deque<List<Integer>> open) {
            List<Integer> node = open.poll();
            int whole = 0;
            for (int l : book) {
                whole += l;
            }
            Map<List<Integer>, Ratio> to = new LinkedHashMap<>();
            Ratio[] called = {Ratio.ZERO, Ratio.ZERO, Ratio.ZERO};
            for (int i = 0; i < 41; i++) {
                if (book[i] == 0) {
                    continue;
                }
                Ratio chance = Ratio.of(book[i], whole);
                List<Integer> next = new ArrayList<>();
                for (int k = 0; k < charts.length; k++) {
                    int[] m = memories.get(k).get(node.get(k)).clone();
                    next.add(charts[k].goOn(m, i - 20) != 0 ? -1 : charts[k].encode(m));
                }
                if (next.contains(-1)) {
                    boolean one = next.get(0) == -1;
                    boolean two = next.size() > 1 && next.get(1) == -1;
                    int sort = one && two ? 1 : one ? 0 : 2;
                    called[sort] = called[sort].plus(chance);
                } else {
                    to.merge(next, chance, Ratio::plus);
                    if (nodes.add(next)) {
                        open.add(next);
                    }
                }
            }
            chances.put(node, to);
            calls.put(node, called);
        }

        boolean canCall(List<Integer> node) {
            Graph from = new Graph(book, List.of(node), charts);
            for (Ratio[] r : from.calls.values()) {
                if (!r[0].isZero() || !r[1].isZero() || !r[2].isZero()) {
                    return true;
                }
            }
            return false;
        }

        boolean never() {
            for (List<Integer> node : nodes) {
                if (!canCall(node)) {
                    return true;
                }
            }
            return false;
        }

        /** Solved by Gauss over fractions; sort -1: the mean. */
        Map<List<Integer>, Ratio> solve(int sort) {
            List<List<Integer>> order = new ArrayList<>(nodes);
            int n = order.size();
            Ratio[][] a = new Ratio[n][n + 1];
            for (int i = 0; i < n; i++) {
                for (int j = 0; j < n; j++) {
                    Ratio c = chances.get(order.get(i)).getOrDefault(order.get(j), Ratio.ZERO);
                    a[i][j] = (i == j ? Ratio.ONE : Ratio.ZERO).minus(c);
                }
                a[i][n] = sort == -1 ? Ratio.ONE : calls.get(order.get(i))[sort];
            }
            for (int k = 0; k < n; k++) {
                int pivot = k;
                while (a[pivot][k].isZero()) {
                    pivot++;
                }
                Ratio[] row = a[pivot];
                a[pivot] = a[k];
                a[k] = row;
                for (int i = 0; i < n; i++) {
                    if (i != k && !a[i][k].isZero()) {
                        Ratio f = a[i][k].over(a[k][k]);
                        for (int j = k; j <= n; j++) {
                            if (!a[k][j].isZero()) {
                                a[i][j] = a[i][j].minus(f.times(a[k][j]));
                            }
                        }
                    }
                }
            }
            Map<List<Integer>, Ratio> result = new LinkedHashMap<>();
            for (int i = 0; i < n; i++) {
                result.put(order.get(i), a[i][n].over(a[i][i]));
            }
            return result;
        }
    }

    int reached(int c, int book, int state) {
        Chart x = at(c);
        if (x == null || ready(book) == null || !x.all().containsKey(state)) {
            return -1;
        }
        return new Graph(ready(book), List.of(List.of(state)), x).nodes.size();
    }

    private static Ratio meanOf(Chart x, int[] book, int state) {
        Graph g = new Graph(book, List.of(List.of(state)), x);
        return g.never() ? null : g.solve(-1).get(List.of(state));
    }

    int mean(int c, int book, int state) {
        Chart x = at(c);
        if (x == null || ready(book) == null || !x.all().containsKey(state)) {
            return -1;
        }
        return tell(meanOf(x, ready(book), state));
    }

    /** Chances of the states after n turns without a call. */
    private static Map<List<Integer>, Ratio> after(Chart x, int[] book, int state, int n) {
        Graph g = new Graph(book, List.of(List.of(state)), x);
        Map<List<Integer>, Ratio> now = Map.of(List.of(state), Ratio.ONE);
        for (int i = 0; i < n; i++) {
            Map<List<Integer>, Ratio> next = new LinkedHashMap<>();
            now.forEach((node, chance) -> g.chances.get(node).forEach(
                    (to, by) -> next.merge(to, by.times(chance), Ratio::plus)));
            now = next;
        }
        return now;
    }

    private static Ratio sum(Map<List<Integer>, Ratio> chances) {
        return chances.values().stream().reduce(Ratio.ZERO, Ratio::plus);
    }

    int by(int c, int book, int state, int n) {
        Chart x = at(c);
        if (x == null || ready(book) == null || !x.all().containsKey(state) || !in(n, 0, 40)) {
            return -1;
        }
        return tell(Ratio.ONE.minus(sum(after(x, ready(book), state, n))));
    }

    int left(int c, int book, int n, int state) {
        Chart x = at(c);
        if (x == null || ready(book) == null || !x.all().containsKey(state) || !in(n, 0, 40)) {
            return -1;
        }
        return tell(after(x, ready(book), x.first(), n).getOrDefault(List.of(state), Ratio.ZERO));
    }

    int found(int c, int book, int n, int other) {
        Chart x = at(c);
        if (x == null || ready(book) == null || ready(other) == null || !in(n, 0, 40)) {
            return -1;
        }
        Map<List<Integer>, Ratio> then = after(x, ready(book), x.first(), n);
        Ratio all = sum(then);
        if (all.isZero()) {
            return 0;
        }
        Ratio total = Ratio.ZERO;
        for (Map.Entry<List<Integer>, Ratio> e : then.entrySet()) {
            Ratio mean = meanOf(x, ready(other), e.getKey().get(0));
            if (mean == null) {
                return 0;
            }
            total = total.plus(e.getValue().times(mean));
        }
        return tell(total.over(all));
    }

    private int together(int c, int d, int book, int sort) {
        Chart x = at(c);
        Chart y = at(d);
        if (x == null || y == null || c == d || ready(book) == null) {
            return -1;
        }
        List<Integer> start = List.of(x.first(), y.first());
        Graph g = new Graph(ready(book), List.of(start), x, y);
        if (g.nodes.size() > 30) {
            return -2;
        }
        return g.never() ? 0 : tell(g.solve(sort).get(start));
    }

    int join(int c, int d, int book) {
        return together(c, d, book, -1);
    }

    int ahead(int c, int d, int book, int which) {
        return which == 0 || which == 1 ? together(c, d, book, which) : -1;
    }

    /** Marks the pairs that some row of scores tells apart, until no more are found. */
    private static Set<List<Integer>> apart(Chart x, int[] book) {
        Map<Integer, int[]> all = x.all();
        int[][] next = new int[all.size()][41];
        for (int s : all.keySet()) {
            for (int i = 0; i < 41; i++) {
                next[s][i] = Math.max(-1, x.next(s, i - 20));
            }
        }
        Set<List<Integer>> apart = new LinkedHashSet<>();
        boolean more = true;
        while (more) {
            more = false;
            for (int a = 0; a < next.length; a++) {
                for (int b = 0; b < next.length; b++) {
                    for (int i = 0; i < 41; i++) {
                        int p = next[a][i];
                        int q = next[b][i];
                        boolean differs = (p < 0) != (q < 0) || p >= 0 && apart.contains(List.of(p, q));
                        if (book[i] > 0 && differs) {
                            more |= apart.add(List.of(a, b));
                        }
                    }
                }
            }
        }
        return apart;
    }

    int alike(int c, int book, int a, int b) {
        Chart x = at(c);
        if (x == null || ready(book) == null || !x.all().containsKey(a) || !x.all().containsKey(b)) {
            return -1;
        }
        return apart(x, ready(book)).contains(List.of(a, b)) ? 0 : 1;
    }

    int kinds(int c, int book) {
        Chart x = at(c);
        if (x == null || ready(book) == null) {
            return -1;
        }
        Set<List<Integer>> apart = apart(x, ready(book));
        List<Integer> picked = new ArrayList<>();
        for (List<Integer> node : new Graph(ready(book), List.of(List.of(x.first())), x).nodes) {
            if (picked.stream().allMatch(p -> apart.contains(List.of(p, node.get(0))))) {
                picked.add(node.get(0));
            }
        }
        return picked.size();
    }

    int best(int mean, int a, int b, int least) {
        if (!in(mean, -20, 20) || !in(least, 0, 1000000) || ready(a) == null || ready(b) == null) {
            return -2;
        }
        int best = -1;
        Ratio bestMean = null;
        for (int line = 0; line <= 12; line++) {
            Chart x = new Chart();
            x.kind = 2;
            x.num = new int[] {mean, line, 0, 0, 0};
            Ratio calm = meanOf(x, ready(a), 0);
            Ratio changed = meanOf(x, ready(b), 0);
            boolean enough = calm == null || calm.compare(Ratio.of(least)) >= 0;
            if (enough && changed != null && (bestMean == null || changed.compare(bestMean) < 0)) {
                best = line;
                bestMean = changed;
            }
        }
        if (bestMean != null) {
            tell(bestMean);
        }
        return best;
    }

    int back(int c, int a, int b) {
        Chart x = at(c);
        if (x == null || ready(a) == null || ready(b) == null) {
            return -1;
        }
        int best = -1;
        Ratio most = Ratio.ZERO;
        for (int k = 0; k <= x.log.size(); k++) {
            Ratio product = Ratio.ONE;
            for (int i = 0; i < x.log.size(); i++) {
                int book = i < k ? a : b;
                product = product.times(Ratio.of(lot(book, x.log.get(i)), whole(book)));
            }
            if (product.compare(most) > 0) {
                most = product;
                best = k;
            }
        }
        return best;
    }

    int length(int which) {
        return which == 0 ? answer.above().bitLength() : which == 1 ? answer.below().bitLength() : -1;
    }

    int bits(int which, int k) {
        if (k < 0 || k > 1000 || !in(which, 0, 1)) {
            return 0;
        }
        return (which == 0 ? answer.above() : answer.below()).shiftRight(32 * k).intValue();
    }

    long times(int n) {
        if (!in(n, 0, 1000000)) {
            return -1;
        }
        BigInteger whole = answer.above().multiply(BigInteger.valueOf(n)).divide(answer.below());
        return whole.min(BigInteger.TEN.pow(18)).longValue();
    }

    int order() {
        return answer.compare(before);
    }

    boolean image(int place) {
        if (!in(place, 0, 1)) {
            return false;
        }
        images[place] = world.copy();
        return true;
    }

    boolean again(int place) {
        if (!in(place, 0, 1) || images[place] == null) {
            return false;
        }
        world = images[place].copy();
        return true;
    }
}
