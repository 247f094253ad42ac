import java.lang.reflect.Field;
import java.math.BigInteger;
import java.util.Random;

/**
 * The class solves by a table of large primes. That a pivot is 0 by one of them, or a whole determinant, is too rare to be
 * met by runs of calls; so here the table's primes are exchanged for small ones, above the greatest WHOLE, and runs drawn
 * by chance must answer the same. With the tiny ones, for BOOKS of few LOTS, pivots of 0 are met by the hundred.
 */
public final class PrimesTest {
    private static final int RUNS = 700;
    private static final int TINY_RUNS = 150;
    private static final int GREATEST_WHOLE = 41 * 99;
    private static final int GREATEST_TINY_WHOLE = 36;
    private static final int[][] CHARTS = {{0, -2, 2, 0, 0, 0}, {1, -3, 3, 0, 2, 3}, {2, 0, 6, 0, 0, 0}, {3, 0, 2, 0, 0, 0},
        {4, 4, 1, 0, 0, 0}, {5, 0, 3, 2, 0, 0}};

    private static int[] table() throws Exception {
        for (Class<?> inside : ChartDesk.class.getDeclaredClasses()) {
            if (inside.getSimpleName().equals("Solver")) {
                Field primes = inside.getDeclaredField("PRIMES");
                primes.setAccessible(true);
                return (int[]) primes.get(null);
            }
        }
        return new int[0];
    }

    /** As the class needs them: primes, all unlike, just below the 30 bits of a word, and as many as it says. */
    private static boolean isGood(int[] primes) {
        boolean good = primes.length >= 54;
        for (int i = 0; i < primes.length; i++) {
            good &= BigInteger.valueOf(primes[i]).isProbablePrime(60) && primes[i] < 1 << 30 && primes[i] > (1 << 30) - 2000;
            good &= i == 0 || primes[i] < primes[i - 1];
        }
        return good;
    }

    /** The table's numbers become the primes above a number. */
    private static void exchange(int[] primes, int above) {
        BigInteger prime = BigInteger.valueOf(above);
        for (int i = 0; i < primes.length; i++) {
            prime = prime.nextProbablePrime();
            primes[i] = prime.intValue();
        }
    }

    /** Both have BOOKS 0 and 1 of at most 36 LOTS, among -4 .. 4, and a small CHART of each KIND. */
    private static void furnish(ChartDesk desk, ReferenceDesk reference, Random random) {
        for (int book = 0; book < 2; book++) {
            for (int score = -4; score <= 4; score++) {
                int n = random.nextInt(5);
                desk.lots(book, score, n);
                reference.lots(book, score, n);
            }
            desk.lots(book, 1, 1);
            reference.lots(book, 1, 1);
        }
        for (int c = 0; c < 6; c++) {
            int[] k = CHARTS[c];
            desk.chart(c, k[0], k[1], k[2], k[3], k[4], k[5]);
            reference.chart(c, k[0], k[1], k[2], k[3], k[4], k[5]);
        }
    }

    private static boolean sameAnswer(ChartDesk desk, ReferenceDesk reference) {
        boolean same = true;
        for (int which = 0; which < 2; which++) {
            same &= desk.length(which) == reference.length(which);
            for (int k = 0; k * 32 < reference.length(which); k++) {
                same &= desk.bits(which, k) == reference.bits(which, k);
            }
        }
        return same;
    }

    /** Each call that solves, of each CHART. */
    private static boolean isTinyRunGood(long seed) {
        Random random = new Random(seed);
        ChartDesk desk = new ChartDesk();
        ReferenceDesk reference = new ReferenceDesk();
        furnish(desk, reference, random);
        boolean good = true;
        for (int c = 0; c < 6; c++) {
            int first = reference.of(c, 1);
            int d = (c + 1 + random.nextInt(5)) % 6;
            good &= desk.mean(c, 0, first) == reference.mean(c, 0, first) && sameAnswer(desk, reference);
            good &= desk.found(c, 0, 3, 1) == reference.found(c, 0, 3, 1) && sameAnswer(desk, reference);
            good &= desk.join(c, d, 1) == reference.join(c, d, 1) && sameAnswer(desk, reference);
            good &= desk.ahead(c, d, 0, 0) == reference.ahead(c, d, 0, 0) && sameAnswer(desk, reference);
        }
        return good;
    }

    private static int wrongInTinyRuns() {
        int wrong = 0;
        for (long seed = 1; seed <= TINY_RUNS; seed++) {
            if (!isTinyRunGood(seed)) {
                wrong++;
            }
        }
        return wrong;
    }

    public static void main(String[] arguments) throws Exception {
        int[] primes = table();
        if (!isGood(primes)) {
            System.out.println("the table of primes is not as it must be");
            System.exit(1);
        }
        exchange(primes, GREATEST_WHOLE);
        int wrong = ChanceTest.wrongInSmallRuns(RUNS, 1);
        System.out.println(wrong + " answers of " + RUNS + " runs by small primes are not as due");
        exchange(primes, GREATEST_TINY_WHOLE);
        int wrongRuns = wrongInTinyRuns();
        System.out.println(wrongRuns + " of " + TINY_RUNS + " runs by tiny primes are not as due");
        if (wrong != 0 || wrongRuns != 0) {
            System.exit(1);
        }
    }
}
