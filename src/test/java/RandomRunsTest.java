import java.math.BigInteger;
import java.util.Random;

/** Runs of up to 512 mixed calls, the same in each run of the test, beside a model of BigIntegers. */
public final class RandomRunsTest {
    private static final BigInteger LIMIT = BigInteger.ONE.shiftLeft(65536);
    private static final int RUNS = 400;
    private static final int MOST_CALLS = 512;

    private final Random random;
    private final int registers;
    private final WholeMill mill = new WholeMill();
    private final BigInteger[] model = new BigInteger[16];
    private final String run;
    private int calls = 0;

    private RandomRunsTest(int seed) {
        random = new Random(seed);
        // With few registers in play the same one is more often taken from and put into.
        registers = seed % 3 == 0 ? 3 : 16;
        run = "run " + seed;
        for (int i = 0; i < 16; i++) {
            model[i] = BigInteger.ZERO;
        }
    }

    public static void main(String[] args) {
        for (int seed = 0; seed < RUNS; seed++) {
            new RandomRunsTest(seed).play();
        }
        Due.finish();
    }

    private void play() {
        while (calls < MOST_CALLS - 150) {
            step();
        }
        for (int r = 0; r < 16; r++) {
            Due.number(run + " at its end", model[r], mill, r);
        }
    }

    private int register() {
        return random.nextInt(60) == 0 ? random.nextInt(40) - 20 : random.nextInt(registers);
    }

    private static boolean is(int r) {
        return r >= 0 && r < 16;
    }

    private long chunk() {
        switch (random.nextInt(8)) {
            case 0: return 0;
            case 1: return -1;
            case 2: return Long.MIN_VALUE;
            case 3: return random.nextInt(5);
            case 4: return -1L << random.nextInt(64);
            case 5: return -1L >>> random.nextInt(64);
            default: return random.nextLong();
        }
    }

    private void step() {
        switch (random.nextInt(20)) {
            case 0: case 1: case 2: push(); break;
            case 3: spread(); break;
            case 4: copy(); break;
            case 5: case 6: case 7: sum(); break;
            case 8: case 9: case 10: product(); break;
            case 11: case 12: case 13: quotient(); break;
            case 14: case 15: root(); break;
            case 16: case 17: shift(); break;
            case 18: part(); break;
            default: look(); break;
        }
    }

    private BigInteger unsigned(long bits) {
        return new BigInteger(Long.toUnsignedString(bits));
    }

    private boolean fits(BigInteger number) {
        return number.signum() >= 0 && number.compareTo(LIMIT) < 0;
    }

    private void put(String call, boolean got, boolean allowed, int d, BigInteger number) {
        String told = run + ", call " + calls + ": " + call;
        calls++;
        boolean want = allowed && fits(number);
        Due.is(told, want ? 1 : 0, got ? 1 : 0);
        if (want) {
            model[d] = number;
            Due.is(told + ": bits", number.bitLength(), mill.bits(d));
            Due.is(told + ": rest", number.mod(BigInteger.valueOf(2147483647)).intValue(), mill.rest(d, 2147483647));
            calls += 2;
        }
    }

    private void push() {
        int r = register();
        long bits = chunk();
        BigInteger want = is(r) ? model[r].shiftLeft(64).add(unsigned(bits)) : null;
        put("push", mill.push(r, bits), is(r), r, want);
    }

    private void spread() {
        int r = register();
        long bits = chunk();
        int n = random.nextInt(5) == 0 ? random.nextInt(1100) - 30 : random.nextInt(40);
        boolean allowed = is(r) && n >= 0 && n <= 1024;
        BigInteger want = BigInteger.ZERO;
        for (int k = 0; allowed && k < n; k++) {
            want = want.shiftLeft(64).or(unsigned(bits));
        }
        put("spread", mill.spread(r, bits, n), allowed, r, want);
    }

    private void copy() {
        int d = register();
        int a = register();
        put("copy", mill.copy(d, a), is(d) && is(a), d, is(a) ? model[a] : null);
    }

    private void sum() {
        int d = register();
        int a = register();
        int b = register();
        boolean allowed = is(d) && is(a) && is(b);
        if (random.nextBoolean()) {
            BigInteger want = allowed ? model[a].add(model[b]) : null;
            put("add", mill.add(d, a, b), allowed, d, want);
        } else {
            BigInteger want = allowed ? model[a].subtract(model[b]) : null;
            put("take", mill.take(d, a, b), allowed, d, want);
        }
    }

    private void product() {
        int d = register();
        int a = register();
        int b = register();
        boolean allowed = is(d) && is(a) && is(b);
        BigInteger want = allowed ? model[a].multiply(model[b]) : null;
        put("times", mill.times(d, a, b), allowed, d, want);
    }

    private void quotient() {
        int q = register();
        int r = register();
        int a = register();
        int b = register();
        boolean allowed = is(q) && is(r) && is(a) && is(b) && q != r && model[b].signum() != 0;
        boolean got = mill.divide(q, r, a, b);
        BigInteger[] want = allowed ? model[a].divideAndRemainder(model[b]) : new BigInteger[2];
        put("divide", got, allowed, q, want[0]);
        put("rest of divide", got, allowed, r, want[1]);
    }

    private void root() {
        int s = register();
        int r = register();
        int a = register();
        boolean allowed = is(s) && is(r) && is(a) && s != r;
        boolean got = mill.root(s, r, a);
        BigInteger[] want = allowed ? model[a].sqrtAndRemainder() : new BigInteger[2];
        put("root", got, allowed, s, want[0]);
        put("rest of root", got, allowed, r, want[1]);
    }

    private void shift() {
        int d = register();
        int a = register();
        int n = random.nextInt(3) == 0 ? random.nextInt(140000) - 70000 : random.nextInt(400) - 200;
        boolean allowed = is(d) && is(a);
        if (allowed && random.nextInt(6) == 0) {
            n = 65536 - model[a].bitLength() + random.nextInt(2);
        }
        put("shift", mill.shift(d, a, n), allowed, d, allowed ? model[a].shiftLeft(n) : null);
    }

    private void part() {
        int d = register();
        int a = register();
        int from = random.nextInt(random.nextBoolean() ? 70000 : 300) - 10;
        int n = random.nextInt(random.nextBoolean() ? 70000 : 300) - 10;
        boolean allowed = is(d) && is(a) && from >= 0 && n >= 0;
        BigInteger want = allowed ? model[a].shiftRight(from).mod(BigInteger.ONE.shiftLeft(n)) : null;
        put("part", mill.part(d, a, from, n), allowed, d, want);
    }

    private void look() {
        int a = register();
        int b = register();
        int k = random.nextInt(2100) - 20;
        int m = random.nextInt() >> random.nextInt(31);
        BigInteger number = is(a) ? model[a] : BigInteger.ZERO;
        int order = is(a) && is(b) ? number.compareTo(model[b]) : -2;
        int word = k < 0 ? 0 : number.shiftRight(32 * k).intValue();
        int left = is(a) && m >= 1 ? number.mod(BigInteger.valueOf(m)).intValue() : -1;
        Due.is(run + ": compare", order, mill.compare(a, b));
        Due.is(run + ": bits", is(a) ? number.bitLength() : -1, mill.bits(a));
        Due.is(run + ": word " + k, word, mill.word(a, k));
        Due.is(run + ": ones", is(a) ? number.bitCount() : -1, mill.ones(a));
        Due.is(run + ": lowest", number.getLowestSetBit(), mill.lowest(a));
        Due.is(run + ": rest by " + m, left, mill.rest(a, m));
        calls += 6;
    }
}
