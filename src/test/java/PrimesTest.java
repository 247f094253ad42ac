import java.lang.reflect.Field;
import java.math.BigInteger;

/**
 * The class solves by a table of large primes. That a pivot is 0 by one of them, or a whole determinant, is too rare to be
 * met by runs of calls; so here the table's primes are exchanged for small ones, above the greatest WHOLE, and runs drawn
 * by chance must answer the same.
 */
public final class PrimesTest {
    private static final int RUNS = 700;

    private static int[] table() throws Exception {
        for (Class<?> inside : ChartDesk.class.getDeclaredClasses()) {
            if (inside.getSimpleName().equals("Solver")) {
                Field primes = inside.getDeclaredField("PRIMES");
                primes.setAccessible(true);
                return (int[]) primes.get(null);
            }
        }
        return new int[0];
    }

    /** As the class needs them: primes, all unlike, just below the 30 bits of a word, and as many as it says. */
    private static boolean isGood(int[] primes) {
        boolean good = primes.length >= 54;
        for (int i = 0; i < primes.length; i++) {
            good &= BigInteger.valueOf(primes[i]).isProbablePrime(60) && primes[i] < 1 << 30 && primes[i] > (1 << 30) - 2000;
            good &= i == 0 || primes[i] < primes[i - 1];
        }
        return good;
    }

    public static void main(String[] arguments) throws Exception {
        int[] primes = table();
        if (!isGood(primes)) {
            System.out.println("the table of primes is not as it must be");
            System.exit(1);
        }
        BigInteger prime = BigInteger.valueOf(41 * 99);
        for (int i = 0; i < primes.length; i++) {
            prime = prime.nextProbablePrime();
            primes[i] = prime.intValue();
        }
        int wrong = ChanceTest.wrongInSmallRuns(RUNS, 1);
        System.out.println(wrong == 0 ? RUNS + " runs by small primes: all answers are as due" : "not as due");
        if (wrong != 0) {
            System.exit(1);
        }
    }
}
