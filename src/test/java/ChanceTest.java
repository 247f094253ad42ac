import java.util.Random;

/**
 * Runs of calls drawn by a fixed seed, asked of ChartDesk and of ReferenceDesk: every answer must be the same. The
 * arguments lie mostly within what the document allows, and now and then at an edge or beyond it.
 *
 * <p>An argument of main, a whole number, is how many runs there are instead of the usual ones; a second one is the seed.
 */
public final class ChanceTest {
    private static final int[] ODD = {-1, -2, 3, 4, 5, 6, 7, 27, 30, 41, 100, -21, 21, 1000001,
        Integer.MAX_VALUE, Integer.MIN_VALUE};
    /** The document promises nothing about an object after so many calls. */
    private static final int MOST_CALLS = 512;
    /** Above the calls of one round, all bits of the longest ANSWER counted. */
    private static final int MOST_IN_ROUND = 75;
    private static int wrong = 0;

    private final Random random;
    private final ChartDesk desk = new ChartDesk();
    private final ReferenceDesk reference = new ReferenceDesk();
    private final StringBuilder calls = new StringBuilder();
    private final int[] states = {1, 1, 1, 1, 1, 1};
    /** Few lots and small charts in most runs, as the reference is slow. */
    private final boolean large;
    private int asked = 0;

    private ChanceTest(long seed) {
        random = new Random(seed);
        large = seed % 10 == 0;
    }

    private int between(int low, int high) {
        return random.nextInt(40) == 0 ? ODD[random.nextInt(ODD.length)] : low + random.nextInt(high - low + 1);
    }

    private int score() {
        return random.nextInt(large ? 2 : 12) == 0 ? between(-20, 20) : between(-4, 4);
    }

    /** Of one that the chart has, as far as there is one. */
    private int state(int c) {
        return between(0, c >= 0 && c < 6 ? states[c] - 1 : 26);
    }

    private void check(String call, long got, long due) {
        calls.append(call).append(" = ").append(due).append('\n');
        asked++;
        if (asked > MOST_CALLS) {
            throw new IllegalStateException("a run asks one object too often");
        }
        if (got != due) {
            wrong++;
            System.out.println(calls + "but it answered " + got);
        }
    }

    private void check(String call, boolean got, boolean due) {
        check(call, got ? 1 : 0, due ? 1 : 0);
    }

    private static String text(String name, int... arguments) {
        StringBuilder s = new StringBuilder(name).append('(');
        for (int i = 0; i < arguments.length; i++) {
            s.append(i == 0 ? "" : ", ").append(arguments[i]);
        }
        return s.append(')').toString();
    }

    private void lots(int b) {
        int s = score();
        int n = random.nextInt(5) == 0 ? 0 : large ? between(0, 99) : between(0, 6);
        check(text("lots", b, s, n), desk.lots(b, s, n), reference.lots(b, s, n));
    }

    private void chart(int c) {
        int kind = between(0, 5);
        int p = score();
        int q = 0;
        int r = 0;
        int s = between(1, 4);
        int t = between(1, 4);
        switch (kind) {
            case 0:
            case 1:
                p = -random.nextInt(8);
                q = random.nextInt(8);
                r = between(0, 3);
                break;
            case 2:
                q = large ? between(0, 20) : between(0, 8);
                break;
            case 3:
                p = between(0, 3);
                q = between(0, large ? 4 : 2);
                break;
            case 4:
                p = between(1, 8);
                q = between(0, large ? 3 : 2);
                break;
            default:
                q = between(1, large ? 8 : 4);
                r = between(1, 3);
                break;
        }
        int count = desk.chart(c, kind, p, q, r, s, t);
        check(text("chart", c, kind, p, q, r, s, t), count, reference.chart(c, kind, p, q, r, s, t));
        if (count > 0) {
            states[c] = count;
        }
    }

    private void tellAnswer() {
        for (int which = -1; which <= 2; which++) {
            check(text("length", which), desk.length(which), reference.length(which));
            int k = between(0, 27);
            check(text("bits", which, k), desk.bits(which, k), reference.bits(which, k));
        }
        for (int k = 0; k * 32 < Math.max(reference.length(0), reference.length(1)); k++) {
            check(text("bits", 0, k), desk.bits(0, k), reference.bits(0, k));
            check(text("bits", 1, k), desk.bits(1, k), reference.bits(1, k));
        }
        int n = random.nextBoolean() ? between(0, 1000000) : 1000000;
        check(text("times", n), desk.times(n), reference.times(n));
        check("order()", desk.order(), reference.order());
    }

    private void smallCall() {
        int a = between(0, 3);
        int b = between(0, 3);
        int c = between(0, 5);
        int s = score();
        int n = random.nextBoolean() ? between(0, 12) : between(0, 40);
        int state = state(c);
        switch (random.nextInt(14)) {
            case 0:
                check(text("lot", a, s), desk.lot(a, s), reference.lot(a, s));
                break;
            case 1:
                check(text("whole", a), desk.whole(a), reference.whole(a));
                break;
            case 2:
                int to = between(0, 3);
                check(text("add", a, b, to), desk.add(a, b, to), reference.add(a, b, to));
                break;
            case 3:
                int what = between(0, 5);
                check(text("of", c, what), desk.of(c, what), reference.of(c, what));
                break;
            case 4:
                check(text("step", c, state, s), desk.step(c, state, s), reference.step(c, state, s));
                break;
            case 5:
                check(text("turn", c, s), desk.turn(c, s), reference.turn(c, s));
                break;
            case 6:
                if (random.nextInt(4) == 0) {
                    check(text("anew", c), desk.anew(c), reference.anew(c));
                }
                break;
            case 7:
                check(text("log", c, n), desk.log(c, n), reference.log(c, n));
                break;
            case 8:
                check(text("sheet", a, n), desk.sheet(a, n), reference.sheet(a, n));
                break;
            case 9:
                check(text("put", a, n, s), desk.put(a, n, s), reference.put(a, n, s));
                break;
            case 10:
                int from = between(0, 40);
                check(text("run", c, a, from, n), desk.run(c, a, from, n), reference.run(c, a, from, n));
                break;
            case 11:
                int seed = random.nextInt();
                int drawn = random.nextBoolean() ? between(1, 20) : between(1, 200);
                check(text("draw", c, a, seed, drawn), desk.draw(c, a, seed, drawn), reference.draw(c, a, seed, drawn));
                break;
            case 12:
                int place = between(0, 1);
                check(text("image", place), desk.image(place), reference.image(place));
                break;
            default:
                int kept = between(0, 1);
                check(text("again", kept), desk.again(kept), reference.again(kept));
                break;
        }
    }

    private void wait(int which) {
        int c = between(0, 5);
        int d = between(0, 5);
        int a = between(0, 3);
        int b = between(0, 3);
        int n = random.nextInt(4) == 0 ? between(0, 40) : between(0, 8);
        int s = state(c);
        switch (which) {
            case 0:
                check(text("reached", c, a, s), desk.reached(c, a, s), reference.reached(c, a, s));
                break;
            case 1:
                check(text("mean", c, a, s), desk.mean(c, a, s), reference.mean(c, a, s));
                break;
            case 2:
                check(text("by", c, a, s, n), desk.by(c, a, s, n), reference.by(c, a, s, n));
                break;
            case 3:
                check(text("left", c, a, n, s), desk.left(c, a, n, s), reference.left(c, a, n, s));
                break;
            case 4:
                check(text("found", c, a, n, b), desk.found(c, a, n, b), reference.found(c, a, n, b));
                break;
            case 5:
                check(text("join", c, d, a), desk.join(c, d, a), reference.join(c, d, a));
                break;
            case 6:
                int w = between(0, 1);
                check(text("ahead", c, d, a, w), desk.ahead(c, d, a, w), reference.ahead(c, d, a, w));
                break;
            case 7:
                int e = state(c);
                check(text("alike", c, a, s, e), desk.alike(c, a, s, e), reference.alike(c, a, s, e));
                break;
            case 8:
                check(text("kinds", c, a), desk.kinds(c, a), reference.kinds(c, a));
                break;
            case 9:
                int mean = score();
                int least = random.nextBoolean() ? between(0, 30) : between(0, 1000000);
                check(text("best", mean, a, b, least), desk.best(mean, a, b, least), reference.best(mean, a, b, least));
                break;
            default:
                back(c, a, b);
                break;
        }
    }

    /** A log that no call has cut short: of a chart that calls late or never, first by one book, then by another. */
    private void back(int c, int a, int b) {
        if (random.nextBoolean()) {
            check(text("chart", c, 0, -20, 20, 0, 0, 0),
                    desk.chart(c, 0, -20, 20, 0, 0, 0), reference.chart(c, 0, -20, 20, 0, 0, 0));
            if (c >= 0 && c < 6) {
                states[c] = 1;
            }
            int[] books = {a, b};
            for (int book : books) {
                int seed = random.nextInt();
                int n = between(1, 22);
                check(text("draw", c, book, seed, n), desk.draw(c, book, seed, n), reference.draw(c, book, seed, n));
            }
        }
        check(text("back", c, a, b), desk.back(c, a, b), reference.back(c, a, b));
    }

    private void begin() {
        for (int i = 0; i < 4; i++) {
            int scores = large ? 4 + random.nextInt(20) : 2 + random.nextInt(4);
            for (int k = 0; k < scores; k++) {
                lots(i);
            }
        }
        for (int i = 0; i < 6; i++) {
            chart(i);
        }
        for (int i = 0; i < 3; i++) {
            int n = between(0, 20);
            check(text("sheet", i, n), desk.sheet(i, n), reference.sheet(i, n));
            for (int k = 0; k < n && k < 41; k++) {
                int score = score();
                check(text("put", i, k, score), desk.put(i, k, score), reference.put(i, k, score));
            }
        }
    }

    private void run() {
        begin();
        tellAnswer();
        for (int i = 0; i < 60 && asked <= MOST_CALLS - MOST_IN_ROUND; i++) {
            int sort = random.nextInt(30);
            if (sort == 0) {
                lots(between(0, 3));
            } else if (sort == 1) {
                chart(between(0, 5));
            } else if (sort < 14) {
                smallCall();
            } else {
                wait(random.nextInt(11));
                tellAnswer();
            }
        }
    }

    /** The largest chart of a kind, by books with lots for every score: the longest fractions that there are. */
    private void dense(int c) {
        for (int score = -20; score <= 20; score++) {
            for (int book = 0; book < 2; book++) {
                int n = 99 - random.nextInt(9);
                check(text("lots", book, score, n), desk.lots(book, score, n), reference.lots(book, score, n));
            }
        }
        int[][] charts = {{0, -19, 19, 0, 0, 0}, {1, -20, 20, 5, 4, 4}, {2, 1, 20, 0, 0, 0}, {3, 5, 4, 0, 0, 0},
            {4, 1, 3, 0, 0, 0}, {5, 3, 8, 3, 0, 0}};
        int[][] made = {charts[0], charts[c]};
        for (int i = 0; i < 2; i++) {
            int[] x = made[i];
            int at = i == 0 ? 0 : c;
            check(text("chart", at, x[0], x[1], x[2], x[3], x[4], x[5]),
                    desk.chart(at, x[0], x[1], x[2], x[3], x[4], x[5]),
                    reference.chart(at, x[0], x[1], x[2], x[3], x[4], x[5]));
        }
        int first = reference.of(c, 1);
        check(text("reached", c, 0, first), desk.reached(c, 0, first), reference.reached(c, 0, first));
        check(text("mean", c, 0, first), desk.mean(c, 0, first), reference.mean(c, 0, first));
        tellAnswer();
        check(text("by", c, 0, first, 40), desk.by(c, 0, first, 40), reference.by(c, 0, first, 40));
        tellAnswer();
        check(text("left", c, 1, 40, first), desk.left(c, 1, 40, first), reference.left(c, 1, 40, first));
        tellAnswer();
        check(text("found", c, 0, 40, 1), desk.found(c, 0, 40, 1), reference.found(c, 0, 40, 1));
        tellAnswer();
        check(text("join", 0, c, 1), desk.join(0, c, 1), reference.join(0, c, 1));
        tellAnswer();
        check(text("ahead", c, 0, 1, 0), desk.ahead(c, 0, 1, 0), reference.ahead(c, 0, 1, 0));
        tellAnswer();
    }

    /** Runs with small numbers alone: how many answers were wrong. */
    static int wrongInSmallRuns(int runs, long seed) {
        for (long i = seed; i < seed + runs && wrong == 0; i++) {
            if (i % 10 != 0) {
                new ChanceTest(i).run();
            }
        }
        return wrong;
    }

    public static void main(String[] arguments) {
        int runs = arguments.length > 0 ? Integer.parseInt(arguments[0]) : 200;
        long seed = arguments.length > 1 ? Long.parseLong(arguments[1]) : 1;
        for (int i = 0; i < runs && wrong == 0; i++) {
            new ChanceTest(seed + i).run();
        }
        for (int c = 0; c < 6; c++) {
            new ChanceTest(seed + c).dense(c);
        }
        System.out.println(wrong == 0 ? runs + " runs: all answers are as due" : wrong + " answers are not as due");
        if (wrong != 0) {
            System.exit(1);
        }
    }
}
