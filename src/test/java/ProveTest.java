import java.math.BigInteger;
import java.util.Arrays;

/** Promises 15 and 16: prove and share, for every law there is. */
public final class ProveTest {
    private static final Due DUE = new Due("ProveTest");

    public static void main(String[] args) {
        everyLaw();
        latestStays();
        refuses();
        DUE.end();
    }

    private static void everyLaw() {
        long[][][] units = sharesOfUnits();
        TellingBench x = new TellingBench();
        int[] numbers = new int[8];
        for (int code = 0; code < 78125; code++) {
            if (code % 18 == 0) {
                x = new TellingBench();
            }
            int digits = code;
            for (int set = 1; set < 8; set++) {
                numbers[set] = digits % 5 - 2;
                digits /= 5;
                x.law(4, set, numbers[set]);
            }
            long[] due = firstShares(units, numbers);
            boolean proved = x.prove(4);
            DUE.is("prove " + Arrays.toString(numbers), proved, due != null);
            DUE.is("as always " + Arrays.toString(numbers), proved, x.always(4, 0) == 1);
            for (int k = 0; due != null && k < 9; k++) {
                DUE.is("share " + k + " of " + Arrays.toString(numbers), x.share(k, 0), due[k]);
                DUE.is("lower " + k + " of " + Arrays.toString(numbers), x.share(k, 1), 1);
            }
        }
    }

    /** For each pair that leaves just one row: the shares of the seven laws of one doubt alone. */
    private static long[][][] sharesOfUnits() {
        long[][][] units = new long[81][][];
        for (int i = 0; i < 9; i++) {
            for (int j = i + 1; j < 9; j++) {
                long[][] rows = new long[8][];
                for (int set = 1; set < 8; set++) {
                    int[] unit = new int[8];
                    unit[set] = 1;
                    rows[set] = wholeShares(Model.onlyShares(unit, i, j));
                }
                units[9 * i + j] = rows[1] == null ? null : rows;
            }
        }
        return units;
    }

    private static long[] wholeShares(Model.Fraction[] shares) {
        if (shares == null) {
            return null;
        }
        for (Model.Fraction share : shares) {
            DUE.yes("a whole share", share.low().equals(BigInteger.ONE));
        }
        return Arrays.stream(shares).mapToLong(share -> share.up().longValueExact()).toArray();
    }

    private static long[] firstShares(long[][][] units, int[] numbers) {
        for (long[][] rows : units) {
            if (rows != null) {
                long[] shares = new long[9];
                for (int set = 1; set < 8; set++) {
                    for (int k = 0; k < 9; k++) {
                        shares[k] += numbers[set] * rows[set][k];
                    }
                }
                if (Arrays.stream(shares).allMatch(s -> s >= 0)) {
                    return shares;
                }
            }
        }
        return null;
    }

    private static void latestStays() {
        TellingBench x = new TellingBench();
        x.law(0, 7, 2);
        x.law(1, 7, -1);
        DUE.is("none yet", x.share(0, 1), -1);
        DUE.no("not provable", x.prove(1));
        DUE.is("none yet", x.share(0, 1), -1);
        DUE.yes("provable", x.prove(0));
        DUE.is("what A is left, twice", x.share(0, 0), 2);
        x.law(0, 7, 0);
        DUE.is("a changed law leaves the shares", x.share(0, 0), 2);
        DUE.no("not provable", x.prove(1));
        DUE.no("no such law", x.prove(10));
        DUE.is("stays", x.share(0, 0), 2);
        DUE.yes("the law of noughts", x.prove(0));
        for (int k = 0; k < 9; k++) {
            DUE.is("nought", x.share(k, 0), 0);
            DUE.is("its lower number", x.share(k, 1), 1);
        }
    }

    private static void refuses() {
        TellingBench x = new TellingBench();
        for (int l : new int[] {-1, 10, Integer.MIN_VALUE, Integer.MAX_VALUE}) {
            DUE.no("no such law", x.prove(l));
        }
        DUE.yes("noughts", x.prove(9));
        for (int k : new int[] {-1, 9, Integer.MIN_VALUE, Integer.MAX_VALUE}) {
            DUE.is("no such share", x.share(k, 0), -1);
            DUE.is("no such number", x.share(0, k == 9 ? 2 : k), -1);
        }
    }
}
