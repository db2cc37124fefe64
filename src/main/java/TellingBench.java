import java.util.Arrays;

/** A bench for doubt and telling among three things in small worlds of whole weights. */
public final class TellingBench {
    public static final int NONE = -1;

    private static final int NO_NUMBER = NONE - 10;
    private static final int NO_SIGN = -2;
    private static final int NOT_NEAR = -10000;

    private static final int WORLDS = 4;
    private static final int LAWS = 10;
    private static final int THINGS = 3;
    private static final int MOST_STATES = 3;
    private static final int SETS = 8;
    private static final int SETTINGS = 27;
    private static final int MOST_WEIGHT = 16;
    private static final int RULES = 19683;
    private static final int MOST_NUMBER = 2;
    private static final int PLAINS = 9;
    private static final int ROWS = 8;
    private static final int GIVENS = 512;

    private static final int FIRST_SETTING_TOLD = 10;
    private static final int NEAR_PARTS = 16;
    /** A doubt is at most 4 and a law's numbers add up to 14: 16 times a sum stays within 896. */
    private static final int NEAR_BOUND = 1024;
    private static final int MOST_WORDS = 8;
    /** Halves are counted in parts so small that a length of nine, the longest, takes one. */
    private static final int WHOLE_OF_HALVES = 512;

    /** Eight numbers each: the empty set has one, too, so that a set is its number's place. */
    private static final int[] PLAIN_NUMBERS = {
        0, 0, 0, 0, 0, 0, -1, 1,
        0, 0, 0, 0, 0, -1, 0, 1,
        0, 0, 0, -1, 0, 0, 0, 1,
        0, 1, 1, -1, 0, 0, 0, 0,
        0, 1, 0, 0, 1, -1, 0, 0,
        0, 0, 1, 0, 1, 0, -1, 0,
        0, 0, 0, 0, -1, 1, 1, -1,
        0, 0, -1, 1, 0, 0, 1, -1,
        0, -1, 0, 1, 0, 1, 0, -1
    };

    /** Eight numbers each, as of the plain ones. */
    private static final int[] ROW_NUMBERS = {
        0, 1, 0, 1, 0, 1, 0, 1,
        0, 0, 1, 1, 0, 0, 1, 1,
        0, 0, 0, 0, 1, 1, 1, 1,
        0, 1, 1, 1, 0, 1, 1, 1,
        0, 1, 0, 1, 1, 1, 1, 1,
        0, 0, 1, 1, 1, 1, 1, 1,
        0, 1, 1, 1, 1, 1, 1, 1,
        0, 1, 1, 2, 1, 2, 2, 2
    };

    /** The sets of two things, in the order of the plain ones 3 to 5 and 6 to 8. */
    private static final int[] PAIRS = {3, 5, 6};

    private static final int[] PRIMES = {2, 3, 5, 7, 11, 13};

    /** How often each of the primes divides 0 (left out), 1, 2 .. 16: six numbers each. */
    private static final int[] PRIME_POWERS = {
        0, 0, 0, 0, 0, 0,
        0, 0, 0, 0, 0, 0,
        1, 0, 0, 0, 0, 0,
        0, 1, 0, 0, 0, 0,
        2, 0, 0, 0, 0, 0,
        0, 0, 1, 0, 0, 0,
        1, 1, 0, 0, 0, 0,
        0, 0, 0, 1, 0, 0,
        3, 0, 0, 0, 0, 0,
        0, 2, 0, 0, 0, 0,
        1, 0, 1, 0, 0, 0,
        0, 0, 0, 0, 1, 0,
        2, 1, 0, 0, 0, 0,
        0, 0, 0, 0, 0, 1,
        1, 0, 0, 1, 0, 0,
        0, 1, 1, 0, 0, 0,
        4, 0, 0, 0, 0, 0
    };

    /** 2 to the 40th times the primes' logarithms to the base of 2, each cut to a whole number. */
    private static final long[] LOGS_CUT = {
        1099511627776L, 1742684699131L, 2552986939188L,
        3086719380096L, 3803685290187L, 4068676497980L
    };

    private final World[] worlds = new World[WORLDS];
    private final int[][] laws = new int[LAWS][SETS];
    private final LogSum logSum = new LogSum();
    private final int[] sums = new int[SETTINGS];
    private final int[] parts = new int[SETS];
    private final int[] trial = new int[PLAINS];
    private final int[] shares = new int[PLAINS];
    private boolean proved = false;

    public TellingBench() {
        for (int g = 0; g < WORLDS; g++) {
            worlds[g] = new World();
        }
    }

    public boolean world(int g, int a, int b, int c) {
        if (!isPlace(g) || !isStateCount(a) || !isStateCount(b) || !isStateCount(c)) {
            return false;
        }
        worlds[g].begin(a, b, c);
        return true;
    }

    public boolean weight(int g, int a, int b, int c, int w) {
        if (!isPlace(g) || w < 0 || w > MOST_WEIGHT || !worlds[g].hasSetting(a, b, c)) {
            return false;
        }
        return worlds[g].put(settingOf(a, b, c), w);
    }

    public int told(int g, int what) {
        if (!isPlace(g)) {
            return NONE;
        }
        World world = worlds[g];
        if (what == 0) {
            return world.isMade() ? 1 : 0;
        }
        if (what >= 1 && what <= THINGS) {
            return world.states[what - 1];
        }
        if (what == 4) {
            return world.total;
        }
        return what >= FIRST_SETTING_TOLD ? world.weightOf(what - FIRST_SETTING_TOLD) : NONE;
    }

    public boolean mix(int f, int h, int g) {
        if (!isMadePlace(f) || !isMadePlace(h) || !isPlace(g)) {
            return false;
        }
        World one = worlds[f];
        World other = worlds[h];
        if (!one.hasStatesOf(other) || one.total + other.total > MOST_WEIGHT) {
            return false;
        }
        worlds[g].becomeMixOf(one, other);
        return true;
    }

    public boolean tell(int g, int rule) {
        if (!isMadePlace(g) || rule < 0 || rule >= RULES) {
            return false;
        }
        worlds[g].gather(PAIRS[0], sums);
        worlds[g].spreadByRule(sums, rule);
        return true;
    }

    public boolean law(int l, int set, int k) {
        if (!isLaw(l) || !isSet(set) || k < -MOST_NUMBER || k > MOST_NUMBER) {
            return false;
        }
        laws[l][set] = k;
        return true;
    }

    public boolean plain(int l, int p) {
        if (!isLaw(l) || p < 0 || p >= PLAINS) {
            return false;
        }
        System.arraycopy(PLAIN_NUMBERS, p * SETS, laws[l], 0, SETS);
        return true;
    }

    public int number(int l, int set) {
        return isLaw(l) && isSet(set) ? laws[l][set] : NO_NUMBER;
    }

    public int sign(int g, int l) {
        if (!isMadePlace(g) || !isLaw(l)) {
            return NO_SIGN;
        }
        logSum.clear();
        addLawSum(worlds[g], laws[l], 1);
        return logSum.signOfSum();
    }

    public int compare(int g, int l, int h, int m) {
        if (!isMadePlace(g) || !isLaw(l) || !isMadePlace(h) || !isLaw(m)) {
            return NO_SIGN;
        }
        World one = worlds[g];
        World other = worlds[h];
        logSum.clear();
        // Each sum is held times its own N: times the other's N both have the same measure.
        addLawSum(one, laws[l], other.total);
        addLawSum(other, laws[m], -one.total);
        return logSum.signOfSum();
    }

    public int near(int g, int l) {
        if (!isMadePlace(g) || !isLaw(l)) {
            return NOT_NEAR;
        }
        int total = worlds[g].total;
        int found = -NEAR_BOUND;
        logSum.clear();
        addLawSum(worlds[g], laws[l], NEAR_PARTS);
        logSum.addLog(2, -found * total);
        for (int step = NEAR_BOUND; step > 0; step /= 2) {
            logSum.addLog(2, -step * total);
            if (logSum.signOfSum() >= 0) {
                found += step;
            } else {
                logSum.addLog(2, step * total);
            }
        }
        return found;
    }

    public int always(int l, int givens) {
        if (!isLaw(l) || !isGivens(givens)) {
            return NONE;
        }
        return firstBreakingRow(laws[l], givens) == NONE ? 1 : 0;
    }

    public int breaks(int l, int givens) {
        return isLaw(l) && isGivens(givens) ? firstBreakingRow(laws[l], givens) : NONE;
    }

    public boolean prove(int l) {
        if (!isLaw(l)) {
            return false;
        }
        splitIntoParts(laws[l]);
        for (int i = 0; i < PLAINS; i++) {
            for (int j = i + 1; j < PLAINS; j++) {
                if (leavesOneRow(i, j) && tryWithout(i, j)) {
                    System.arraycopy(trial, 0, shares, 0, PLAINS);
                    proved = true;
                    return true;
                }
            }
        }
        return false;
    }

    public int share(int k, int what) {
        if (!proved || k < 0 || k >= PLAINS || what < 0 || what > 1) {
            return NONE;
        }
        // Every share that tryWithout() finds is whole, so its lower number is 1.
        return what == 0 ? shares[k] : 1;
    }

    public int mean(int g, int set) {
        if (!isMadePlace(g) || !isSet(set)) {
            return NONE;
        }
        worlds[g].gather(set, sums);
        return leastMean(keepAboveNought());
    }

    public boolean words(int n, int v) {
        if (n < 1 || n > MOST_WORDS || v < 0) {
            return false;
        }
        int used = 0;
        int digits = v;
        for (int i = 0; i < n; i++) {
            used += WHOLE_OF_HALVES >> (digits % 10);
            digits /= 10;
        }
        return used <= WHOLE_OF_HALVES;
    }

    public int secret(int g, int set) {
        if (!isMadePlace(g) || (set != 2 && set != 4 && set != 6)) {
            return NONE;
        }
        World world = worlds[g];
        logSum.clear();
        addDoubt(world, set | 1, 1);
        addDoubt(world, set, -1);
        if (logSum.isNought()) {
            return 1;
        }
        // What A is left, less A's own doubt, is what they tell of one another, turned round.
        addDoubt(world, 1, -1);
        return logSum.isNought() ? 0 : 2;
    }

    private static boolean isPlace(int g) {
        return g >= 0 && g < WORLDS;
    }

    private boolean isMadePlace(int g) {
        return isPlace(g) && worlds[g].isMade();
    }

    private static boolean isStateCount(int count) {
        return count >= 1 && count <= MOST_STATES;
    }

    private static boolean isLaw(int l) {
        return l >= 0 && l < LAWS;
    }

    private static boolean isSet(int set) {
        return set >= 1 && set < SETS;
    }

    private static boolean isGivens(int givens) {
        return givens >= 0 && givens < GIVENS;
    }

    private static int settingOf(int a, int b, int c) {
        return a + 3 * b + 9 * c;
    }

    /** The sum is taken times N: each logarithm then comes a whole number of times. */
    private void addLawSum(World world, int[] numbers, int times) {
        for (int set = 1; set < SETS; set++) {
            if (numbers[set] != 0) {
                addDoubt(world, set, numbers[set] * times);
            }
        }
    }

    /** All w / N log (N / w) added, times N, are N log N less all w log w. */
    private void addDoubt(World world, int set, int times) {
        world.gather(set, sums);
        logSum.addLog(world.total, times * world.total);
        for (int i = 0; i < SETTINGS; i++) {
            if (sums[i] > 0) {
                logSum.addLog(sums[i], -times * sums[i]);
            }
        }
    }

    private static int firstBreakingRow(int[] numbers, int givens) {
        for (int row = 0; row < ROWS; row++) {
            if (keepsGivens(row, givens) && sumByRow(row, numbers, 0) < 0) {
                return row;
            }
        }
        return NONE;
    }

    private static boolean keepsGivens(int row, int givens) {
        for (int p = 0; p < PLAINS; p++) {
            boolean given = ((givens >> p) & 1) == 1;
            if (given && sumByRow(row, PLAIN_NUMBERS, p * SETS) != 0) {
                return false;
            }
        }
        return true;
    }

    /** The numbers may begin within an array, as those of the plain ones share one. */
    private static int sumByRow(int row, int[] numbers, int from) {
        int sum = 0;
        for (int set = 1; set < SETS; set++) {
            sum += numbers[from + set] * ROW_NUMBERS[row * SETS + set];
        }
        return sum;
    }

    /**
     * Tells a law in the seven parts of a picture of three rings: a set's doubt is all parts that
     * lie in one of its rings, so a part's number is that of all the sets which meet it.
     */
    private void splitIntoParts(int[] numbers) {
        for (int part = 1; part < SETS; part++) {
            int sum = 0;
            for (int set = 1; set < SETS; set++) {
                if ((set & part) != 0) {
                    sum += numbers[set];
                }
            }
            parts[part] = sum;
        }
    }

    /**
     * Whether the seven plain ones but i and j have just one row of shares for each law. In parts,
     * 0 to 2 are A, B, C alone, 6 to 8 the parts of two, 3 to 5 such a part and the middle one.
     * So 3 - 6, 4 - 7 and 5 - 8 are the same, and no other tie is there: two of these three
     * columns must each lose one.
     */
    private static boolean leavesOneRow(int i, int j) {
        return i >= 3 && j >= 3 && i % 3 != j % 3;
    }

    /**
     * Where i or j takes one of 3 and 6 (4 and 7, 5 and 8) away, the other must be all of that part.
     * The one column that keeps both is open to make up what the middle part still wants.
     */
    private boolean tryWithout(int i, int j) {
        int middle = parts[7];
        int open = 0;
        for (int t = 0; t < THINGS; t++) {
            trial[t] = parts[1 << t];
            trial[3 + t] = 0;
            if (i == 6 + t || j == 6 + t) {
                trial[3 + t] = parts[PAIRS[t]];
            } else if (i != 3 + t && j != 3 + t) {
                open = t;
            }
            middle -= trial[3 + t];
        }
        trial[3 + open] = middle;
        for (int t = 0; t < THINGS; t++) {
            trial[6 + t] = parts[PAIRS[t]] - trial[3 + t];
        }
        return noneIsBelowNought(trial);
    }

    private static boolean noneIsBelowNought(int[] row) {
        for (int i = 0; i < row.length; i++) {
            if (row[i] < 0) {
                return false;
            }
        }
        return true;
    }

    /** A setting of weight 0 has no word: only the front that is counted here takes part. */
    private int keepAboveNought() {
        int count = 0;
        for (int i = 0; i < SETTINGS; i++) {
            if (sums[i] > 0) {
                sums[count] = sums[i];
                count++;
            }
        }
        return count;
    }

    /** The two least weights share all bits but the last: joining them costs one bit of each. */
    private int leastMean(int count) {
        int bits = 0;
        for (int left = count; left > 1; left--) {
            moveLeastToEnd(left);
            moveLeastToEnd(left - 1);
            sums[left - 2] += sums[left - 1];
            bits += sums[left - 2];
        }
        return bits;
    }

    /** The order of the sums is free, so that one swap takes the least out of the front. */
    private void moveLeastToEnd(int count) {
        int least = 0;
        for (int i = 1; i < count; i++) {
            if (sums[i] < sums[least]) {
                least = i;
            }
        }
        int kept = sums[least];
        sums[least] = sums[count - 1];
        sums[count - 1] = kept;
    }

    /** Its states are 0 until they are told: it has no setting then. */
    private static final class World {
        private final int[] states = new int[THINGS];
        private final int[] weights = new int[SETTINGS];
        private int total = 0;

        private boolean isMade() {
            return total > 0;
        }

        private void begin(int a, int b, int c) {
            states[0] = a;
            states[1] = b;
            states[2] = c;
            Arrays.fill(weights, 0);
            total = 0;
        }

        private boolean hasSetting(int a, int b, int c) {
            return a >= 0 && a < states[0] && b >= 0 && b < states[1] && c >= 0 && c < states[2];
        }

        /** NONE where the world has no such setting, as it has no such state or none was told. */
        private int weightOf(int setting) {
            if (setting < 0 || setting >= SETTINGS) {
                return NONE;
            }
            return hasSetting(setting % 3, setting / 3 % 3, setting / 9) ? weights[setting] : NONE;
        }

        private boolean hasStatesOf(World other) {
            return states[0] == other.states[0]
                && states[1] == other.states[1]
                && states[2] == other.states[2];
        }

        private boolean put(int setting, int w) {
            int newTotal = total - weights[setting] + w;
            if (newTotal > MOST_WEIGHT) {
                return false;
            }
            weights[setting] = w;
            total = newTotal;
            return true;
        }

        /** This world may be one of the two: each place is read before it is written. */
        private void becomeMixOf(World one, World other) {
            int newTotal = one.total + other.total;
            for (int t = 0; t < THINGS; t++) {
                states[t] = one.states[t];
            }
            for (int i = 0; i < SETTINGS; i++) {
                weights[i] = one.weights[i] + other.weights[i];
            }
            total = newTotal;
        }

        /** A thing outside the set counts as in state 0, which adds the weights of all its states. */
        private void gather(int set, int[] into) {
            Arrays.fill(into, 0);
            for (int i = 0; i < SETTINGS; i++) {
                int a = (set & 1) != 0 ? i % 3 : 0;
                int b = (set & 2) != 0 ? i / 3 % 3 : 0;
                int c = (set & 4) != 0 ? i / 9 : 0;
                into[settingOf(a, b, c)] += weights[i];
            }
        }

        /** Settings that A and B don't have weigh 0: all nine digits may be followed. */
        private void spreadByRule(int[] ofBoth, int rule) {
            Arrays.fill(weights, 0);
            int digits = rule;
            for (int i = 0; i < 9; i++) {
                weights[i + 9 * (digits % 3)] = ofBoth[i];
                digits /= 3;
            }
            states[2] = MOST_STATES;
        }
    }

    /**
     * A sum of logarithms of the six primes up to 16, each some whole number of times. It is 0
     * only if all these numbers are, as no two products of primes are the same.
     */
    private static final class LogSum {
        private final int[] times = new int[PRIMES.length];
        private final Whole upper = new Whole();
        private final Whole lower = new Whole();

        private void clear() {
            Arrays.fill(times, 0);
        }

        private void addLog(int whole, int often) {
            if (whole < 1 || whole > MOST_WEIGHT) {
                return;
            }
            for (int p = 0; p < PRIMES.length; p++) {
                times[p] += often * PRIME_POWERS[whole * PRIMES.length + p];
            }
        }

        private boolean isNought() {
            for (int p = 0; p < PRIMES.length; p++) {
                if (times[p] != 0) {
                    return false;
                }
            }
            return true;
        }

        /** A cut logarithm is less than 1 too low: beyond that the cut sum has the right sign. */
        private int signOfSum() {
            long cutSum = 0;
            long cutAway = 0;
            for (int p = 0; p < PRIMES.length; p++) {
                cutSum += times[p] * LOGS_CUT[p];
                cutAway += Math.abs(times[p]);
            }
            if (cutSum > cutAway) {
                return 1;
            }
            if (cutSum < -cutAway) {
                return -1;
            }
            return isNought() ? 0 : signOfProducts();
        }

        /** The sum's sign by whole numbers alone: the product of its primes is above 1 or below. */
        private int signOfProducts() {
            upper.becomeOne();
            lower.becomeOne();
            for (int p = 0; p < PRIMES.length; p++) {
                upper.multiplyByPower(PRIMES[p], times[p]);
                lower.multiplyByPower(PRIMES[p], -times[p]);
            }
            return upper.against(lower);
        }
    }

    /**
     * A whole number above 0 of any size that is needed. A law's sum times N takes at most 14 doubts
     * of 64 bits, 896: times 16 and of two worlds that is 28,672 for compare(), times 16 and with 16
     * times the bound 30,720 for near(). The row holds 32,768.
     */
    private static final class Whole {
        private static final int MOST_DIGITS = 1024;
        private static final int DIGIT_BITS = 32;
        private static final long DIGIT_MASK = 0xFFFFFFFFL;
        /** A factor grows to less than 13 times this, so that a digit times it stays a long. */
        private static final long FACTOR_ENOUGH = 1L << 26;

        private final long[] digits = new long[MOST_DIGITS];
        private int length = 0;

        private void becomeOne() {
            digits[0] = 1;
            length = 1;
        }

        /** A power below 0 does nothing here, as that prime is a factor of the other product. */
        private void multiplyByPower(int prime, int power) {
            long factor = 1;
            for (int left = power; left > 0; left--) {
                factor *= prime;
                if (factor >= FACTOR_ENOUGH || left == 1) {
                    multiplyBy(factor);
                    factor = 1;
                }
            }
        }

        private void multiplyBy(long factor) {
            long carry = 0;
            for (int i = 0; i < length; i++) {
                long product = digits[i] * factor + carry;
                digits[i] = product & DIGIT_MASK;
                carry = product >>> DIGIT_BITS;
            }
            if (carry > 0 && length < MOST_DIGITS) {
                digits[length] = carry;
                length++;
            }
        }

        private int against(Whole other) {
            if (length != other.length) {
                return length < other.length ? -1 : 1;
            }
            for (int i = length - 1; i >= 0; i--) {
                if (digits[i] != other.digits[i]) {
                    return digits[i] < other.digits[i] ? -1 : 1;
                }
            }
            return 0;
        }
    }
}
