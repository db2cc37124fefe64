import java.lang.reflect.Constructor;
import java.lang.reflect.Field;
import java.lang.reflect.Method;
import java.math.BigDecimal;
import java.math.BigInteger;
import java.math.MathContext;

/**
 * Promises 10 to 12 from the inside: the way by products of whole numbers is seldom needed, so it is
 * asked here at its full size. The document leaves free how sums are held: if they are held in
 * another way, there is nothing to ask here.
 */
public final class ProductsTest {
    private static final Due DUE = new Due("ProductsTest");
    private static final int[] PRIMES = {2, 3, 5, 7, 11, 13};

    /** How often each prime: nothing, hair's breadths, and products of up to 28,672 bits. */
    private static final int[][] ASKED = {
        {0, 0, 0, 0, 0, 0}, {-1, 0, 0, 0, 0, 0}, {1, 0, 0, 0, 0, 0}, {-84, 53, 0, 0, 0, 0},
        {-485, 306, 0, 0, 0, 0}, {-24727, 15601, 0, 0, 0, 0}, {24727, -15601, 0, 0, 0, 0},
        {-1, 0, 0, 0, 0, 7000}, {-28671, 0, 0, 0, 0, 7748}, {-28672, 0, 0, 0, 0, 7748},
        {3, 1, 1, 1, -1, -1}, {-9, -1, 0, 1, 1, 1}, {0, 2, 1, -2, 0, 0}, {-3, 0, 2, -1, 0, 0},
    };

    public static void main(String[] args) throws ReflectiveOperationException {
        for (Class<?> kind : TellingBench.class.getDeclaredClasses()) {
            if (kind.getSimpleName().equals("LogSum")) {
                askProducts(kind);
                askLogarithms();
                DUE.end();
                return;
            }
        }
        System.out.println("ProductsTest: sums are held in another way, nothing to ask");
    }

    private static void askProducts(Class<?> kind) throws ReflectiveOperationException {
        Constructor<?> maker = kind.getDeclaredConstructor();
        maker.setAccessible(true);
        Object logSum = maker.newInstance();
        Field timesField = kind.getDeclaredField("times");
        timesField.setAccessible(true);
        int[] times = (int[]) timesField.get(logSum);
        Method byProducts = kind.getDeclaredMethod("signOfProducts");
        byProducts.setAccessible(true);
        Method byAll = kind.getDeclaredMethod("signOfSum");
        byAll.setAccessible(true);
        for (int[] row : ASKED) {
            System.arraycopy(row, 0, times, 0, PRIMES.length);
            String asked = java.util.Arrays.toString(row);
            DUE.is("products " + asked, (int) byProducts.invoke(logSum), bigSign(row));
            DUE.is("sum " + asked, (int) byAll.invoke(logSum), bigSign(row));
        }
    }

    /** What is cut away is held to be below 1: so each logarithm must be right to its last bit. */
    private static void askLogarithms() throws ReflectiveOperationException {
        Field field = TellingBench.class.getDeclaredField("LOGS_CUT");
        field.setAccessible(true);
        long[] logs = (long[]) field.get(null);
        for (int p = 0; p < PRIMES.length; p++) {
            DUE.is("logarithm of " + PRIMES[p], logs[p], logarithmCut(PRIMES[p]));
        }
    }

    /** 2 to the 40th times the logarithm to the base of 2, cut: squaring tells a bit at a time. */
    private static long logarithmCut(int prime) {
        BigDecimal two = BigDecimal.valueOf(2);
        BigDecimal left = BigDecimal.valueOf(prime);
        long cut = 0;
        for (; left.compareTo(two) >= 0; left = left.divide(two)) {
            cut++;
        }
        for (int bit = 0; bit < 40; bit++) {
            left = left.multiply(left, new MathContext(80));
            cut *= 2;
            if (left.compareTo(two) >= 0) {
                left = left.divide(two, new MathContext(80));
                cut++;
            }
        }
        return cut;
    }

    private static int bigSign(int[] times) {
        BigInteger[] sides = {BigInteger.ONE, BigInteger.ONE};
        for (int p = 0; p < PRIMES.length; p++) {
            int side = times[p] > 0 ? 0 : 1;
            sides[side] = sides[side].multiply(BigInteger.valueOf(PRIMES[p]).pow(Math.abs(times[p])));
        }
        return sides[0].compareTo(sides[1]);
    }
}
