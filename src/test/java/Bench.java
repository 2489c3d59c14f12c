import java.math.BigInteger;

/** A WholeMill beside the numbers that its registers are due to have, and a count of the calls it was used for. */
final class Bench {
    static final BigInteger ZERO = BigInteger.ZERO;
    static final BigInteger ONE = BigInteger.ONE;
    static final BigInteger MOST = power(65536).subtract(ONE);
    private static final int REGISTERS = 16;
    private static final int MOST_CALLS = 512;

    private final WholeMill mill = new WholeMill();
    private final BigInteger[] due = new BigInteger[REGISTERS];
    private int calls = 0;

    /** Register i gets the number i of these, at most 15, the others stay 0. */
    Bench(BigInteger... numbers) {
        for (int r = 0; r < REGISTERS; r++) {
            due[r] = ZERO;
        }
        for (int r = 0; r < numbers.length; r++) {
            put(r, numbers[r]);
            has("made for the test", r, numbers[r]);
        }
    }

    static BigInteger power(int n) {
        return ONE.shiftLeft(n);
    }

    /** The number that the 64 bits are, without a sign. */
    static BigInteger number(long bits) {
        return new BigInteger(Long.toUnsignedString(bits));
    }

    /** The object, for one call. */
    WholeMill call() {
        calls++;
        // Nothing is promised for later calls, so that no test may look at one.
        if (calls == MOST_CALLS + 1) {
            Due.is("calls that the test makes on one object", MOST_CALLS, calls);
        }
        return mill;
    }

    int callsMade() {
        return calls;
    }

    /** A call answered got, which is to be true, and has put a number into d. */
    void puts(String call, boolean got, int d, BigInteger want) {
        Due.done(call, got);
        has(call, d, want);
    }

    /** The same for a call that puts two numbers. */
    void puts(String call, boolean got, int first, BigInteger wantFirst, int second, BigInteger wantSecond) {
        Due.done(call, got);
        has(call, first, wantFirst);
        has(call, second, wantSecond);
    }

    private void has(String call, int r, BigInteger want) {
        due[r] = want;
        look(call, r);
    }

    private void look(String call, int r) {
        for (int i = 0; i < Due.CALLS_FOR_A_NUMBER; i++) {
            call();
        }
        Due.number(call, due[r], mill, r);
    }

    /** Every register has the number that is due. */
    void allAsDue(String call) {
        for (int r = 0; r < REGISTERS; r++) {
            look(call, r);
        }
    }

    /** A call answered got, which is to be false. */
    void refuses(String call, boolean got) {
        Due.refused(call, got);
    }

    /**
     * In few calls: of its pairs of words, those alike that stand side by side are put together, by way of
     * the register behind, which is filled later or never.
     */
    private void put(int r, BigInteger want) {
        int i = (want.bitLength() + 63) / 64 - 1;
        while (i >= 0) {
            int count = alike(want, i);
            call().spread(r + 1, pair(want, i), count);
            call().shift(r, r, 64 * count);
            call().add(r, r, r + 1);
            i -= count;
        }
        call().spread(r + 1, 0, 0);
    }

    private static long pair(BigInteger number, int i) {
        return number.shiftRight(64 * i).longValue();
    }

    /** How many of its 64-bit pairs of words, from pair i down, are the same. */
    private static int alike(BigInteger number, int i) {
        int count = 1;
        while (i - count >= 0 && pair(number, i - count) == pair(number, i)) {
            count++;
        }
        return count;
    }
}
