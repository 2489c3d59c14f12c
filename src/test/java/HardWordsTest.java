import java.math.BigInteger;
import java.util.Random;

/** Quotients and roots of numbers made of words at which guessed words are most often wrong. */
public final class HardWordsTest {
    private static final BigInteger ONE = BigInteger.ONE;
    private static final int[] HARD = {0, 0, 1, 2, -1, -1, -2, 0x80000000, 0x80000001, 0x7FFFFFFF, 0x7FFFFFFE,
        0x40000000, 0x3FFFFFFF, 0xBFFFFFFF, 0xC0000000, 0x55555555, 0xAAAAAAAA};

    private static final Random RANDOM = new Random(1);
    private static WholeMill mill = new WholeMill();
    private static int calls = 0;

    public static void main(String[] args) {
        for (int i = 0; i < 60000; i++) {
            quotientsFromBack(1 + RANDOM.nextInt(6), 1 + RANDOM.nextInt(6));
            quotientOf(hard(1 + RANDOM.nextInt(9)), hard(1 + RANDOM.nextInt(5)));
            rootsNearSquare(hard(1 + RANDOM.nextInt(6)));
            rootOf(hard(1 + RANDOM.nextInt(10)));
        }
        for (int i = 0; i < 30; i++) {
            quotientsFromBack(1 + RANDOM.nextInt(120), 1 + RANDOM.nextInt(120));
            rootsNearSquare(hard(1 + RANDOM.nextInt(120)));
            rootOf(hard(1 + RANDOM.nextInt(240)));
            fullSize(hard(160));
        }
        Due.finish();
    }

    private static BigInteger hard(int words) {
        BigInteger number = BigInteger.ZERO;
        for (int i = 0; i < words; i++) {
            int word = RANDOM.nextInt(4) == 0 ? RANDOM.nextInt() : HARD[RANDOM.nextInt(HARD.length)];
            number = number.shiftLeft(32).or(BigInteger.valueOf(word & 0xFFFFFFFFL));
        }
        return number;
    }

    /** Puts a number into a register, of an object that has calls enough to come. */
    private static void put(int r, BigInteger number) {
        mill.spread(r, 0, 0);
        int pairs = (number.bitLength() + 63) / 64;
        for (int i = pairs - 1; i >= 0; i--) {
            mill.push(r, number.shiftRight(64 * i).longValue());
        }
        calls += pairs + 1;
    }

    private static void renew(int coming) {
        if (calls + coming > 512) {
            mill = new WholeMill();
            calls = 0;
        }
    }

    /** Dividends one below, at and one above a multiple of the divisor. */
    private static void quotientsFromBack(int quotientWords, int divisorWords) {
        BigInteger divisor = hard(divisorWords);
        BigInteger product = divisor.multiply(hard(quotientWords));
        quotientOf(product, divisor);
        quotientOf(product.add(ONE), divisor);
        if (product.signum() > 0) {
            quotientOf(product.subtract(ONE), divisor);
        }
    }

    private static void quotientOf(BigInteger a, BigInteger b) {
        if (b.signum() == 0) {
            return;
        }
        renew(300);
        put(0, a);
        put(1, b);
        BigInteger[] want = a.divideAndRemainder(b);
        String call = a.toString(16) + " divided by " + b.toString(16);
        Due.done(call, mill.divide(2, 3, 0, 1));
        Due.number(call, want[0], mill, 2);
        Due.number(call, want[1], mill, 3);
        calls += 13;
    }

    /** The square, one below it, and the greatest number that has the same root. */
    private static void rootsNearSquare(BigInteger s) {
        BigInteger square = s.multiply(s);
        rootOf(square);
        rootOf(square.add(s).add(s));
        if (square.signum() > 0) {
            rootOf(square.subtract(ONE));
        }
    }

    private static void rootOf(BigInteger a) {
        renew(300);
        put(0, a);
        BigInteger[] want = a.sqrtAndRemainder();
        String call = "root of " + a.toString(16);
        Due.done(call, mill.root(2, 3, 0));
        Due.number(call, want[0], mill, 2);
        Due.number(call, want[1], mill, 3);
        calls += 13;
    }

    /** Numbers of all 65,536 bits, made by calls, as pushing them would take too many. */
    private static void fullSize(BigInteger seed) {
        renew(512);
        put(0, seed);
        BigInteger a = seed.pow(8);
        int free = 65536 - a.bitLength();
        mill.times(4, 0, 0);
        mill.times(4, 4, 4);
        mill.times(4, 4, 4);
        Due.done("shift to full size", mill.shift(4, 4, free));
        Due.number("shift to full size", a.shiftLeft(free), mill, 4);
        Due.done("add at full size", mill.add(4, 4, 0));
        a = a.shiftLeft(free).add(seed);
        Due.done("root at full size", mill.root(5, 6, 4));
        Due.number("root at full size", a.sqrt(), mill, 5);
        Due.number("rest of root at full size", a.subtract(a.sqrt().pow(2)), mill, 6);
        Due.done("divide at full size", mill.divide(7, 8, 4, 5));
        Due.number("divide at full size", a.divide(a.sqrt()), mill, 7);
        Due.number("rest of divide at full size", a.mod(a.sqrt()), mill, 8);
        Due.done("divide at full size by few words", mill.divide(7, 8, 4, 0));
        Due.number("divide at full size by few words", a.divide(seed), mill, 7);
        Due.number("rest of divide at full size by few words", a.mod(seed), mill, 8);
        calls = 512;
    }
}
