import java.lang.reflect.Constructor;
import java.lang.reflect.Field;
import java.lang.reflect.Method;
import java.math.BigInteger;
import java.util.Random;

/**
 * The class's numbers of any length, beside BigInteger. Their words are drawn from those at the edges, so that divisions
 * come to the rare step in which a guessed word is one too great: no run of calls is likely to get there.
 */
public final class BigTest {
    private static final int BITS = 30;
    private static final int[] EDGES = {0, 1, 2, 3, (1 << 29) - 1, 1 << 29, (1 << 29) + 1, (1 << 30) - 2, (1 << 30) - 1};
    private static final Random RANDOM = new Random(30);
    private static int wrong = 0;

    private static Constructor<?> made;
    private static Field words;
    private static Field size;

    private static Method method(String name, Class<?>... types) throws Exception {
        Method m = made.getDeclaringClass().getDeclaredMethod(name, types);
        m.setAccessible(true);
        return m;
    }

    private static void look() throws Exception {
        for (Class<?> inside : ChartDesk.class.getDeclaredClasses()) {
            if (inside.getSimpleName().equals("Big")) {
                made = inside.getDeclaredConstructor();
                words = inside.getDeclaredField("words");
                size = inside.getDeclaredField("size");
            }
        }
        made.setAccessible(true);
        words.setAccessible(true);
        size.setAccessible(true);
    }

    private static int word() {
        return RANDOM.nextInt(3) == 0 ? RANDOM.nextInt(1 << BITS) : EDGES[RANDOM.nextInt(EDGES.length)];
    }

    private static Object big(int count) throws Exception {
        Object big = made.newInstance();
        int top = 0;
        for (int i = 0; i < count; i++) {
            int w = word();
            ((int[]) words.get(big))[i] = w;
            top = w == 0 ? top : i + 1;
        }
        size.setInt(big, top);
        return big;
    }

    /** The value; words beyond the size must be 0, and the highest one within it not. */
    private static BigInteger value(Object big) throws Exception {
        int[] w = (int[]) words.get(big);
        int n = size.getInt(big);
        BigInteger sum = BigInteger.ZERO;
        for (int i = w.length - 1; i >= 0; i--) {
            must(w[i] >= 0 && w[i] < 1 << BITS && (i < n || w[i] == 0) && (i != n - 1 || w[i] != 0), "words in order");
            sum = sum.shiftLeft(BITS).or(BigInteger.valueOf(w[i]));
        }
        return sum;
    }

    private static void must(boolean holds, String what) {
        if (!holds && wrong++ < 10) {
            System.out.println("broken: " + what);
        }
    }

    private static void divide(Class<?> type) throws Exception {
        Method splitBy = method("splitBy", type, type, type);
        for (int i = 0; i < 300000; i++) {
            Object a = big(1 + RANDOM.nextInt(7));
            Object b = big(1 + RANDOM.nextInt(4));
            Object q = big(5);
            Object scaled = big(6);
            BigInteger x = value(a);
            BigInteger y = value(b);
            splitBy.invoke(a, b, q, scaled);
            if (y.signum() != 0) {
                BigInteger[] due = x.divideAndRemainder(y);
                must(value(q).equals(due[0]) && value(a).equals(due[1]) && value(b).equals(y), x + " / " + y);
            }
        }
    }

    private static void others(Class<?> type) throws Exception {
        Method product = method("product", type, type);
        Method gain = method("gain", type, int.class);
        Method lessen = method("lessen", type);
        Method scale = method("scale", int.class);
        Method against = method("against", type);
        Method restBy = method("restBy", int.class);
        Method width = method("width");
        Method window = method("window", int.class);
        for (int i = 0; i < 50000; i++) {
            Object a = big(RANDOM.nextInt(30));
            Object b = big(RANDOM.nextInt(30));
            int f = word();
            BigInteger x = value(a);
            BigInteger y = value(b);
            BigInteger factor = BigInteger.valueOf(f);
            Object p = big(9);
            product.invoke(p, a, b);
            must(value(p).equals(x.multiply(y)), x + " * " + y);
            must((int) against.invoke(a, b) == x.compareTo(y), x + " against " + y);
            must((int) width.invoke(p) == x.multiply(y).bitLength(), "width of " + x.multiply(y));
            for (int k = 0; k < 60; k++) {
                must((int) window.invoke(p, k) == x.multiply(y).shiftRight(32 * k).intValue(), "window " + k);
            }
            if (f > 0) {
                must((int) restBy.invoke(a, f) == x.mod(factor).intValue(), x + " % " + f);
            }
            gain.invoke(a, b, f);
            must(value(a).equals(x.add(y.multiply(factor))), x + " + " + y + " * " + f);
            if (f > 0) {
                lessen.invoke(a, b);
                must(value(a).equals(x.add(y.multiply(factor)).subtract(y)), "less " + y);
            }
            scale.invoke(b, f);
            must(value(b).equals(y.multiply(factor)), y + " * " + f);
        }
    }

    public static void main(String[] arguments) throws Exception {
        look();
        divide(made.getDeclaringClass());
        others(made.getDeclaringClass());
        System.out.println(wrong == 0 ? "numbers are as due" : wrong + " are not as due");
        if (wrong != 0) {
            System.exit(1);
        }
    }
}
