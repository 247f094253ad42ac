import java.lang.reflect.InvocationTargetException;
import java.lang.reflect.Method;
import java.util.Arrays;
import java.util.HashMap;
import java.util.Map;
import java.util.Set;

/**
 * Each call with every choice of arguments from the edges of what each may be, on objects with something of all, beside
 * ReferenceDesk: the same answers, and the same to be seen after a call that may have changed something.
 */
public final class EdgeTest {
    private static final int LEAST = Integer.MIN_VALUE;
    private static final int MOST = Integer.MAX_VALUE;
    private static final int[] BOOK = {LEAST, -1, 0, 1, 2, 3, 4, MOST};
    private static final int[] CHART = {LEAST, -1, 0, 1, 2, 3, 4, 5, 6, MOST};
    private static final int[] SCORE = {LEAST, -21, -20, -1, 0, 1, 20, 21, MOST};
    private static final int[] LOTS = {LEAST, -1, 0, 1, 99, 100, MOST};
    private static final int[] STATE = {LEAST, -1, 0, 1, 2, 8, 9, 16, 17, 24, 25, MOST};
    private static final int[] WHAT = {LEAST, -1, 0, 1, 2, 3, 4, 5, 6, MOST};
    private static final int[] PLACE_IN_LOG = {LEAST, -1, 0, 1, 38, 39, 40, MOST};
    private static final int[] SHEET = {LEAST, -1, 0, 1, 2, 3, 4, MOST};
    private static final int[] SIZE = {LEAST, -2, -1, 0, 1, 40, 41, MOST};
    private static final int[] PLACE = {LEAST, -1, 0, 2, 3, 39, 40, MOST};
    private static final int[] SEED = {LEAST, -1, 0, 1, MOST};
    private static final int[] DRAWN = {LEAST, -1, 0, 1, 200, 201, MOST};
    private static final int[] TURNS = {LEAST, -1, 0, 1, 40, 41, MOST};
    private static final int[] WHICH = {LEAST, -1, 0, 1, 2, MOST};
    private static final int[] WORD = {LEAST, -1, 0, 1, 63, 64, 1 << 27, MOST};
    private static final int[] MILLION = {LEAST, -1, 0, 1, 1000000, 1000001, MOST};
    private static final Set<String> CHANGERS = Set.of("lots", "add", "turn", "anew", "sheet", "put", "run", "draw",
            "image", "again");
    private static final int MOST_CALLS = 512;

    private static final Map<String, Method> DESK = new HashMap<>();
    private static final Map<String, Method> REFERENCE = new HashMap<>();
    private static int wrong = 0;
    private static int asked = 0;

    private ChartDesk desk;
    private ReferenceDesk reference;
    private int calls;

    private EdgeTest() {
        renew();
    }

    private void renew() {
        desk = new ChartDesk();
        reference = new ReferenceDesk();
        calls = 0;
    }

    private long ask(String name, Object... arguments) {
        calls++;
        asked++;
        long got = number(DESK.get(name), desk, arguments);
        long due = number(REFERENCE.get(name), reference, arguments);
        if (got != due) {
            wrong++;
            System.out.println(name + Arrays.toString(arguments) + " answered " + got + ", due is " + due);
        }
        return got;
    }

    private static long number(Method method, Object on, Object... arguments) {
        try {
            Object got = method.invoke(on, arguments);
            return got instanceof Boolean ? ((Boolean) got ? 1 : 0) : ((Number) got).longValue();
        } catch (IllegalAccessException | InvocationTargetException thrown) {
            throw new IllegalStateException(method + Arrays.toString(arguments), thrown);
        }
    }

    /** BOOK 3 is not READY, CHART 5 is not there and SHEET 3 is missing; the LOG of CHART 1 is full; an image at 1. */
    private void furnish() {
        renew();
        int[][] lots = {{0, -1, 2}, {0, 1, 1}, {0, 0, 3}, {1, 1, 5}, {1, 5, 1}, {2, 0, 7}, {2, -20, 1}};
        for (int[] l : lots) {
            ask("lots", l[0], l[1], l[2]);
        }
        ask("image", 1);
        int[][] charts = {{2, 0, 1, 0, 0, 0}, {0, -20, 4, 0, 0, 0}, {1, -4, 4, 0, 2, 3}, {3, 1, 4, 0, 0, 0}, {4, 3, 2, 0, 0, 0}};
        for (int c = 0; c < charts.length; c++) {
            int[] k = charts[c];
            ask("chart", c, k[0], k[1], k[2], k[3], k[4], k[5]);
            ask("turn", c, 1);
        }
        ask("draw", 1, 0, 1, 45);
        ask("sheet", 0, 3);
        ask("put", 0, 0, 20);
        ask("put", 0, 2, -20);
        ask("sheet", 1, 40);
        ask("put", 1, 39, 5);
        ask("sheet", 2, 0);
        ask("mean", 0, 0, 0);
        ask("mean", 0, 0, 1);
    }

    /** What can be seen, in so few calls that the object is not used too often. */
    private void look() {
        for (int i = 0; i < 4; i++) {
            ask("whole", i);
            ask("lot", i, -20);
            ask("lot", i, 0);
            ask("lot", i, 20);
        }
        for (int c = 0; c < 6; c++) {
            for (int what = 0; what < 6; what++) {
                ask("of", c, what);
            }
            ask("log", c, 0);
            ask("log", c, 39);
        }
        ask("order");
        ask("times", 1000000);
        for (int s = 0; s < 4; s++) {
            ask("run", 1, s, 0, 40);
            ask("log", 1, 0);
            ask("log", 1, 39);
        }
        ask("again", 0);
        ask("again", 1);
        ask("whole", 0);
        ask("of", 0, 0);
    }

    private void call(String name, Object[] arguments) {
        if (calls > MOST_CALLS - 120) {
            furnish();
        }
        ask(name, arguments);
        if (CHANGERS.contains(name)) {
            look();
            furnish();
        }
    }

    /** Every choice of one edge for each argument. */
    private void all(String name, int[]... edges) {
        furnish();
        int[] chosen = new int[edges.length];
        for (boolean more = true; more;) {
            Object[] arguments = new Object[edges.length];
            for (int i = 0; i < edges.length; i++) {
                arguments[i] = edges[i][chosen[i]];
            }
            call(name, arguments);
            int i = 0;
            while (i < edges.length && ++chosen[i] == edges[i].length) {
                chosen[i] = 0;
                i++;
            }
            more = i < edges.length;
        }
        look();
    }

    private void charts() {
        int[] p = {LEAST, -21, -20, -1, 0, 1, 8, 9, 20, 21, MOST};
        int[] q = {LEAST, -21, -20, -1, 0, 1, 3, 4, 5, 8, 9, 20, 21, MOST};
        int[] r = {LEAST, -1, 0, 1, 3, 4, 19, 20, MOST};
        int[] s = {LEAST, 0, 1, 4, 5, MOST};
        int[] t = {LEAST, 0, 1, 3, 4, 5, MOST};
        for (int kind = -1; kind <= 6; kind++) {
            for (int i = 0; i < p.length * q.length; i++) {
                for (int j = 0; j < r.length * s.length * t.length; j++) {
                    chart(kind, p[i / q.length], q[i % q.length], r[j / (s.length * t.length)],
                            s[j / t.length % s.length], t[j % t.length]);
                }
            }
        }
        for (int c : CHART) {
            for (int kind : WHAT) {
                renew();
                ask("chart", c, kind, 1, 1, 1, 1, 1);
                look();
            }
        }
    }

    private void chart(int kind, int p, int q, int r, int s, int t) {
        if (calls > MOST_CALLS - 8) {
            renew();
        }
        if (ask("chart", 0, kind, p, q, r, s, t) > 0) {
            ask("of", 0, 1);
            ask("step", 0, 0, 20);
            ask("step", 0, 0, -20);
        }
    }

    private static void methodsOf(Class<?> from, Map<String, Method> to) {
        for (Method m : from.getDeclaredMethods()) {
            to.put(m.getName(), m);
        }
    }

    public static void main(String[] arguments) {
        methodsOf(ChartDesk.class, DESK);
        methodsOf(ReferenceDesk.class, REFERENCE);
        EdgeTest x = new EdgeTest();
        x.all("lots", BOOK, SCORE, LOTS);
        x.all("lot", BOOK, SCORE);
        x.all("whole", BOOK);
        x.all("add", BOOK, BOOK, BOOK);
        x.charts();
        x.all("of", CHART, WHAT);
        x.all("step", CHART, STATE, SCORE);
        x.all("turn", CHART, SCORE);
        x.all("anew", CHART);
        x.all("log", CHART, PLACE_IN_LOG);
        x.all("sheet", SHEET, SIZE);
        x.all("put", SHEET, PLACE, SCORE);
        x.all("run", CHART, SHEET, PLACE, SIZE);
        x.all("draw", CHART, BOOK, SEED, DRAWN);
        x.all("reached", CHART, BOOK, STATE);
        x.all("mean", CHART, BOOK, STATE);
        x.all("by", CHART, BOOK, STATE, TURNS);
        x.all("left", CHART, BOOK, TURNS, STATE);
        x.all("found", CHART, BOOK, TURNS, BOOK);
        x.all("join", CHART, CHART, BOOK);
        x.all("ahead", CHART, CHART, BOOK, WHICH);
        x.all("alike", CHART, BOOK, STATE, STATE);
        x.all("kinds", CHART, BOOK);
        x.all("best", SCORE, BOOK, BOOK, MILLION);
        x.all("back", CHART, BOOK, BOOK);
        x.all("length", WHICH);
        x.all("bits", WHICH, WORD);
        x.all("times", MILLION);
        x.all("image", WHICH);
        x.all("again", WHICH);
        System.out.println(asked + " answers: " + (wrong == 0 ? "all are as due" : wrong + " are not as due"));
        if (wrong != 0) {
            System.exit(1);
        }
    }
}
