import java.math.BigInteger;

/** Each sentence of the promises that names a boundary case, with a test of its own. */
public final class PromiseEdgesTest {
    private static final BigInteger ZERO = Bench.ZERO;
    private static final BigInteger ONE = Bench.ONE;
    private static final BigInteger MOST = Bench.MOST;
    private static final BigInteger TWO = number(2);
    private static final int LEAST_INT = Integer.MIN_VALUE;
    private static final int MOST_INT = Integer.MAX_VALUE;
    private static final int[] NO_REGISTERS = {-1, 16, -16, 17, 32, LEAST_INT, MOST_INT};
    /** Numbers at the edges of bits, words, pairs of words and registers, upward: for all registers but the last. */
    private static final BigInteger[] EDGES = {ZERO, ONE, TWO, number(0x7FFFFFFFL), number(0x80000000L),
        number(0xFFFFFFFFL), power(32), number(Long.MIN_VALUE), number(-1), power(64), power(32768).subtract(ONE),
        power(32768), power(65535).subtract(ONE), power(65535), MOST};

    public static void main(String[] args) {
        newObject();
        pushEdges();
        spreadEdges();
        copyEdges();
        addEdges();
        takeEdges();
        timesEdges();
        divideEdges();
        rootEdges();
        shiftEdges();
        partEdges();
        compareEdges();
        bitsEdges();
        wordEdges();
        onesEdges();
        lowestEdges();
        restEdges();
        Due.finish();
    }

    private static BigInteger power(int n) {
        return Bench.power(n);
    }

    private static BigInteger number(long bits) {
        return Bench.number(bits);
    }

    // Promise 1

    private static void newObject() {
        Due.by("All registers are 0.");
        Bench bench = new Bench();
        bench.allAsDue("new");
        for (int r = 0; r < 16; r++) {
            Due.is("new: lowest of " + r, -1, bench.call().lowest(r));
            Due.refused("new: divide by " + r, bench.call().divide(0, 1, 2, r));
            for (int k = 0; k < 3; k++) {
                Due.is("new: word of " + r, 0, bench.call().word(r, k));
            }
        }
    }

    // Promise 2

    private static void pushEdges() {
        pushIsTimes2ToThe64();
        pushIsWithoutASign();
        pushTooGreat();
    }

    private static void pushIsTimes2ToThe64() {
        Due.by("r becomes its number * 2^64 + the number that the 64 bits are");
        Bench bench = new Bench();
        bench.puts("push 0 to 0", bench.call().push(0, 0), 0, ZERO);
        bench.puts("push 1 to 0", bench.call().push(0, 1), 0, ONE);
        bench.puts("push 0 to 1", bench.call().push(0, 0), 0, power(64));
        bench.puts("push bits of the upper word", bench.call().push(0, 1L << 32), 0, power(128).add(power(32)));
        BigInteger want = ZERO;
        for (int i = 1; i < 40; i++) {
            want = want.shiftLeft(64).add(number(i));
            bench.puts("push " + i, bench.call().push(15, i), 15, want);
        }
        bench.allAsDue("pushed");
    }

    private static void pushIsWithoutASign() {
        Due.by("(without a sign)");
        for (long bits : new long[] {-1, Long.MIN_VALUE, Long.MAX_VALUE, 0x80000000L, 0xFFFFFFFFL, -1L << 32}) {
            Bench bench = new Bench(ZERO, ONE, number(-1));
            bench.puts("push to 0", bench.call().push(0, bits), 0, number(bits));
            bench.puts("push to 1", bench.call().push(1, bits), 1, power(64).add(number(bits)));
            BigInteger want = number(-1).shiftLeft(64).add(number(bits));
            bench.puts("push to 2^64 - 1", bench.call().push(2, bits), 2, want);
        }
    }

    private static void pushTooGreat() {
        Due.by("refused, as all, when that is too great");
        BigInteger last = power(65472).subtract(ONE);
        Bench bench = new Bench(last, last, power(65472), MOST, power(65535), power(65471), power(65472).add(ONE));
        bench.puts("push ones to 2^65472 - 1", bench.call().push(0, -1), 0, MOST);
        bench.puts("push 0 to 2^65472 - 1", bench.call().push(1, 0), 1, last.shiftLeft(64));
        bench.puts("push to 2^65471", bench.call().push(5, 7), 5, power(65535).add(number(7)));
        for (int r : new int[] {0, 1, 2, 3, 4, 5, 6}) {
            bench.refuses("push 0 to register " + r, bench.call().push(r, 0));
            bench.refuses("push -1 to register " + r, bench.call().push(r, -1));
        }
        bench.allAsDue("refused");
        // 1,024 times 64 bits are all that a register takes: half of them here, as a run has 512 calls.
        bench = new Bench(power(32768).subtract(ONE));
        for (int i = 0; i < 472; i++) {
            Due.done("push " + i, bench.call().push(0, -1));
        }
        bench.puts("push into a long number", bench.call().push(0, -2), 0, power(63040).subtract(TWO));
    }

    // Promise 3

    private static void spreadEdges() {
        spreadIsSum();
        spreadIsWithoutASign();
        spread0Times();
        spreadTooOften();
    }

    private static BigInteger sum(long bits, int n) {
        BigInteger sum = ZERO;
        for (int k = 0; k < n; k++) {
            sum = sum.add(number(bits).shiftLeft(64 * k));
        }
        return sum;
    }

    private static void spreadIsSum() {
        Due.by("the sum of bits * 2^(64 * k) for k = 0 .. n - 1");
        for (int n : new int[] {1, 2, 3, 512, 1023, 1024}) {
            Bench bench = new Bench(number(99), MOST);
            for (long bits : new long[] {0x0123456789ABCDEFL, 1, 1L << 32, 0}) {
                String call = "spread " + bits + " by " + n;
                bench.puts(call, bench.call().spread(0, bits, n), 0, sum(bits, n));
                bench.puts(call + " over more", bench.call().spread(1, bits, n), 1, sum(bits, n));
            }
            bench.allAsDue("spread");
        }
    }

    private static void spreadIsWithoutASign() {
        Due.by("n times the 64 bits (a number without a sign) one beside the other");
        for (int n : new int[] {1, 2, 1023, 1024}) {
            Bench bench = new Bench();
            for (long bits : new long[] {-1, -2, Long.MIN_VALUE, Long.MAX_VALUE, 0x80000000L, -1L << 32}) {
                bench.puts("spread " + bits + " by " + n, bench.call().spread(0, bits, n), 0, sum(bits, n));
            }
        }
    }

    private static void spread0Times() {
        Due.by("(0 for n 0.)");
        Bench bench = new Bench(number(99), MOST, ZERO);
        bench.puts("spread 0 times", bench.call().spread(0, -1, 0), 0, ZERO);
        bench.puts("spread 0 times over the greatest", bench.call().spread(1, -1, 0), 1, ZERO);
        bench.puts("spread 0 times over 0", bench.call().spread(2, -1, 0), 2, ZERO);
        bench.puts("spread 0 0 times", bench.call().spread(3, 0, 0), 3, ZERO);
    }

    private static void spreadTooOften() {
        Due.by("Refused, too, when n is not 0 .. 1024.");
        Bench bench = new Bench(number(99), MOST, ZERO);
        for (int n : new int[] {-1, -2, -1024, 1025, 1026, 2048, 65536, 1 << 26, 1 << 27, LEAST_INT, MOST_INT}) {
            for (int r = 0; r < 3; r++) {
                bench.refuses("spread ones by " + n, bench.call().spread(r, -1, n));
                bench.refuses("spread 1 by " + n, bench.call().spread(r, 1, n));
                bench.refuses("spread 0 by " + n, bench.call().spread(r, 0, n));
            }
        }
        bench.allAsDue("refused");
        bench.puts("spread 1,024 times", bench.call().spread(0, -1, 1024), 0, MOST);
        bench.puts("spread 0 1,024 times", bench.call().spread(1, 0, 1024), 1, ZERO);
    }

    // Promise 4

    private static void copyEdges() {
        Due.by("d becomes a.");
        for (BigInteger from : EDGES) {
            Bench bench = new Bench(from, MOST, ONE);
            bench.puts("copy over the greatest", bench.call().copy(1, 0), 1, from);
            bench.puts("copy over 1", bench.call().copy(2, 0), 2, from);
            bench.puts("copy over 0", bench.call().copy(15, 0), 15, from);
            bench.allAsDue("copied");
            // The copy lives on when what was copied changes.
            bench.puts("then another number", bench.call().spread(0, 5, 1), 0, number(5));
            bench.allAsDue("changed behind");
        }
    }

    // Promise 5

    private static void addEdges() {
        addAllEdges();
        addUpToTheGreatest();
    }

    private static void addAllEdges() {
        Due.by("d becomes a + b.");
        for (int a = 0; a < EDGES.length; a++) {
            Bench bench = new Bench(EDGES);
            for (int b = 0; b < EDGES.length; b++) {
                String call = "add edges " + a + " and " + b;
                // The greatest stands in the place that is put, so that less must show as less.
                bench.puts(call + ": the greatest", bench.call().spread(15, -1, 1024), 15, MOST);
                boolean got = bench.call().add(15, a, b);
                BigInteger want = EDGES[a].add(EDGES[b]);
                if (want.compareTo(MOST) > 0) {
                    bench.refuses(call, got);
                } else {
                    bench.puts(call, got, 15, want);
                }
            }
            bench.allAsDue("added");
        }
    }

    private static void addUpToTheGreatest() {
        Due.by("a number to be put would be .. above 2^65536 - 1");
        for (int n : new int[] {0, 1, 31, 32, 33, 64, 32768, 65504, 65534, 65535}) {
            BigInteger piece = power(n);
            Bench bench = new Bench(MOST.subtract(piece), piece, ONE, MOST);
            bench.puts("add 2^" + n + " up to the greatest", bench.call().add(4, 0, 1), 4, MOST);
            bench.puts("the other way", bench.call().add(5, 1, 0), 5, MOST);
            bench.refuses("add 2^" + n + " to the greatest", bench.call().add(4, 3, 1));
            bench.refuses("the other way", bench.call().add(4, 1, 3));
            bench.refuses("add 1 to what is the greatest", bench.call().add(5, 5, 2));
            bench.allAsDue("added");
        }
    }

    // Promise 6

    private static void takeEdges() {
        Due.by("d becomes a - b.");
        for (int a = 0; a < EDGES.length; a++) {
            Bench bench = new Bench(EDGES);
            for (int b = 0; b < EDGES.length; b++) {
                String call = "take edge " + b + " from edge " + a;
                bench.puts(call + ": the greatest", bench.call().spread(15, -1, 1024), 15, MOST);
                boolean got = bench.call().take(15, a, b);
                BigInteger want = EDGES[a].subtract(EDGES[b]);
                if (want.signum() < 0) {
                    bench.refuses(call, got);
                } else {
                    bench.puts(call, got, 15, want);
                }
            }
            bench.allAsDue("taken");
        }
    }

    // Promise 7

    private static void timesEdges() {
        timesAllEdges();
        timesUpToTheGreatest();
        timesPowersOfTwo();
    }

    private static void timesAllEdges() {
        Due.by("d becomes a * b.");
        for (int a = 0; a < EDGES.length; a++) {
            Bench bench = new Bench(EDGES);
            for (int b = 0; b < EDGES.length; b++) {
                String call = "edge " + a + " times edge " + b;
                bench.puts(call + ": the greatest", bench.call().spread(15, -1, 1024), 15, MOST);
                boolean got = bench.call().times(15, a, b);
                BigInteger want = EDGES[a].multiply(EDGES[b]);
                if (want.compareTo(MOST) > 0) {
                    bench.refuses(call, got);
                } else {
                    bench.puts(call, got, 15, want);
                }
            }
            bench.allAsDue("multiplied");
        }
    }

    /** 2^65536 - 1 is (2^n - 1) times a whole number for each power of two n; one more is too great. */
    private static void timesUpToTheGreatest() {
        Due.by("a number to be put would be .. above 2^65536 - 1");
        for (int n = 1; n <= 32768; n *= 2) {
            BigInteger factor = power(n).subtract(ONE);
            Bench bench = new Bench(MOST, factor, ONE);
            bench.puts("the other factor", bench.call().divide(3, 4, 0, 1), 3, MOST.divide(factor), 4, ZERO);
            bench.puts("the greatest as a product", bench.call().times(5, 1, 3), 5, MOST);
            bench.puts("the other way", bench.call().times(6, 3, 1), 6, MOST);
            if (n > 1) {
                BigInteger more = MOST.divide(factor).add(ONE);
                bench.puts("one factor more by 1", bench.call().add(7, 3, 2), 7, more);
                bench.refuses("the product is too great", bench.call().times(8, 1, 7));
                bench.refuses("the other way", bench.call().times(8, 7, 1));
            }
            bench.allAsDue("multiplied");
        }
    }

    private static void timesPowersOfTwo() {
        Due.by("a number to be put would be .. above 2^65536 - 1");
        for (int n : new int[] {0, 1, 31, 32, 33, 1000, 32767, 32768, 65535}) {
            Bench bench = new Bench(power(n), power(65535 - n), power(Math.min(65536 - n, 65535)));
            bench.puts("2^" + n + " times the rest", bench.call().times(3, 0, 1), 3, power(65535));
            if (n > 0) {
                bench.refuses("2^" + n + " times 1 bit more", bench.call().times(3, 0, 2));
                bench.refuses("the other way", bench.call().times(3, 2, 0));
            }
            bench.allAsDue("multiplied");
        }
    }

    // Promise 8

    private static void divideEdges() {
        divideAllEdges();
        divideAtMultiples();
        divideBy0();
    }

    private static void divideAllEdges() {
        Due.by("q becomes the greatest whole number that times b is not above a, r becomes a less that product.");
        for (int a = 0; a < EDGES.length; a++) {
            Bench bench = new Bench(EDGES);
            for (int b = 1; b < EDGES.length; b++) {
                String call = "divide edge " + a + " by edge " + b;
                bench.call().spread(15, -1, 1024);
                // What is left goes over the edge that is 0, which no other division here takes.
                bench.puts(call, bench.call().divide(15, 0, a, b), 15, EDGES[a].divide(EDGES[b]), 0,
                    EDGES[a].mod(EDGES[b]));
            }
            bench.allAsDue("divided");
        }
    }

    /** At b * q, just below, and at b * q + b - 1, where the rest is the greatest. */
    private static void divideAtMultiples() {
        Due.by("the greatest whole number that times b is not above a");
        BigInteger[] divisors = {ONE, TWO, number(0xFFFFFFFFL), power(32), power(32).add(ONE), number(-1),
            power(64).add(ONE), power(32768).subtract(ONE), power(32768).add(ONE)};
        BigInteger[] quotients = {ONE, TWO, number(0xFFFFFFFFL), number(-1), power(32767), power(32767).add(ONE)};
        for (BigInteger b : divisors) {
            for (BigInteger q : quotients) {
                BigInteger product = b.multiply(q);
                divideAt(product, b);
                divideAt(product.subtract(ONE), b);
                divideAt(product.add(b).subtract(ONE), b);
            }
        }
        for (BigInteger b : divisors) {
            divideAt(b.subtract(ONE), b);
            divideAt(ZERO, b);
        }
        divideAt(MOST.subtract(ONE), MOST);
        divideAt(MOST, MOST.subtract(ONE));
        divideAt(MOST, MOST);
        divideAt(MOST, ONE);
        divideAt(power(65535), MOST);
    }

    private static void divideAt(BigInteger a, BigInteger b) {
        Bench bench = new Bench(a, b);
        String call = "divide " + a.bitLength() + " bits by " + b.bitLength() + " bits";
        bench.puts(call, bench.call().divide(2, 3, 0, 1), 2, a.divide(b), 3, a.mod(b));
        bench.allAsDue(call);
    }

    private static void divideBy0() {
        Due.by("Refused, too, when b is 0.");
        Bench bench = new Bench(EDGES);
        for (int a = 0; a < EDGES.length; a++) {
            bench.refuses("divide edge " + a + " by 0", bench.call().divide(3, 4, a, 0));
            bench.refuses("divide edge " + a + " by 0 into itself", bench.call().divide(a, a + 1, a, 0));
            bench.refuses("divide edge " + a + " by 0 into the 0", bench.call().divide(0, 4, a, 0));
        }
        bench.allAsDue("refused");
        // A divisor that has become 0 is 0 as well.
        bench.puts("become 0", bench.call().take(14, 14, 14), 14, ZERO);
        bench.refuses("divide by what was the greatest", bench.call().divide(3, 4, 5, 14));
        bench.allAsDue("refused");
    }

    // Promise 9

    private static void rootEdges() {
        Due.by("s becomes the greatest whole number whose square is not above a, r becomes a less that square.");
        for (int a = 0; a <= 130; a++) {
            rootAt(number(a));
        }
        for (BigInteger a : EDGES) {
            rootAt(a);
        }
        for (int n : new int[] {1, 2, 15, 16, 17, 31, 32, 33, 47, 48, 63, 64, 65, 96, 1000, 32766, 32767}) {
            rootsAround(power(n));
            rootsAround(power(n).add(ONE));
            rootsAround(power(n).subtract(ONE));
        }
        // The root of the greatest number, whose square is the greatest of all.
        rootsAround(power(32768).subtract(ONE));
        rootAt(MOST.subtract(ONE));
    }

    /** One below the square, the square, the last number with that root, and the next. */
    private static void rootsAround(BigInteger s) {
        BigInteger square = s.multiply(s);
        BigInteger last = square.add(s).add(s);
        rootAt(square.subtract(ONE));
        rootAt(square);
        rootAt(last);
        if (last.compareTo(MOST) < 0) {
            rootAt(last.add(ONE));
        }
    }

    private static void rootAt(BigInteger a) {
        Bench bench = new Bench(a);
        BigInteger root = a.sqrt();
        String call = "root of " + a.bitLength() + " bits";
        bench.puts(call + ": the greatest", bench.call().spread(1, -1, 1024), 1, MOST);
        bench.puts(call, bench.call().root(1, 2, 0), 1, root, 2, a.subtract(root.multiply(root)));
        bench.allAsDue(call);
    }

    // Promise 10

    private static void shiftEdges() {
        shiftLeftEdges();
        shiftOf0();
        shiftTooFar();
        shiftRightEdges();
    }

    private static void shiftLeftEdges() {
        Due.by("d becomes a * 2^n");
        for (BigInteger a : EDGES) {
            Bench bench = new Bench(a);
            for (int n : new int[] {0, 1, 31, 32, 33, 63, 64, 65}) {
                if (a.bitLength() + n <= 65536) {
                    bench.puts("shift by " + n, bench.call().shift(1, 0, n), 1, a.shiftLeft(n));
                }
            }
            if (a.signum() > 0) {
                int most = 65536 - a.bitLength();
                bench.puts("shift to the end", bench.call().shift(1, 0, most), 1, a.shiftLeft(most));
            }
            bench.allAsDue("shifted");
        }
    }

    private static void shiftOf0() {
        Due.by("(of 0 it is 0, whatever n is)");
        Bench bench = new Bench(ZERO, MOST);
        int[] all = {0, 1, -1, 31, 32, -32, 65535, 65536, 65537, -65535, -65536, -65537, 1 << 21, MOST_INT - 1,
            MOST_INT, -MOST_INT, LEAST_INT};
        for (int n : all) {
            bench.puts("the greatest", bench.call().spread(1, -1, 1024), 1, MOST);
            bench.puts("shift 0 by " + n, bench.call().shift(1, 0, n), 1, ZERO);
            bench.puts("shift 0 by " + n + " into itself", bench.call().shift(0, 0, n), 0, ZERO);
        }
        bench.allAsDue("shifted");
    }

    private static void shiftTooFar() {
        Due.by("a number to be put would be .. above 2^65536 - 1");
        for (int i = 1; i < EDGES.length; i++) {
            Bench bench = new Bench(EDGES[i], MOST, ONE);
            int first = 65537 - EDGES[i].bitLength();
            for (int n : new int[] {first, first + 1, first + 31, first + 32, 65537, 1 << 17, 1 << 21, 1 << 30,
                MOST_INT - 31, MOST_INT}) {
                for (int d = 0; d < 4; d++) {
                    bench.refuses("shift edge " + i + " by " + n, bench.call().shift(d, 0, n));
                }
            }
            bench.allAsDue("refused");
        }
    }

    private static void shiftRightEdges() {
        Due.by("if n is below 0, the greatest whole number that is not above a / 2^(-n)");
        for (BigInteger a : EDGES) {
            Bench bench = new Bench(a);
            int size = a.bitLength();
            for (int n : new int[] {1, 31, 32, 33, 64, 65, size - 1, size, size + 1, 65535, 65536, 65537, 1 << 17,
                1 << 21, 1 << 30, MOST_INT - 31, MOST_INT}) {
                if (n > 0) {
                    bench.puts("the greatest", bench.call().spread(1, -1, 1024), 1, MOST);
                    bench.puts("shift by -" + n, bench.call().shift(1, 0, -n), 1, a.shiftRight(n));
                }
            }
            bench.puts("shift by the least int", bench.call().shift(1, 0, LEAST_INT), 1, ZERO);
            bench.puts("and 1 more", bench.call().shift(1, 0, LEAST_INT + 1), 1, ZERO);
            bench.allAsDue("shifted");
        }
    }

    // Promise 11

    private static void partEdges() {
        partIsARest();
        partOf0Bits();
        partBehindTheEnd();
        partBelow0();
    }

    private static void partAt(Bench bench, BigInteger a, int from, int n) {
        String call = "part of " + a.bitLength() + " bits from " + from + " of " + n;
        BigInteger shifted = a.shiftRight(Math.min(from, 65536));
        bench.puts(call, bench.call().part(1, 0, from, n), 1, shifted.mod(power(Math.min(n, 65536))));
    }

    private static void partIsARest() {
        Due.by("the rest of (a shifted right by from) divided by 2^n");
        BigInteger mixed = power(40000).subtract(power(20000)).add(number(0x123456789ABCDEFL));
        for (BigInteger a : new BigInteger[] {mixed, MOST, power(65535), number(-1)}) {
            for (int from : new int[] {0, 1, 31, 32, 33, 64, 19999, 20000, 39999, 65504, 65535}) {
                Bench bench = new Bench(a);
                for (int n : new int[] {1, 31, 32, 33, 63, 64, 65, 20000, 39999, 40000, 65535, 65536, 65537,
                    1 << 17, 1 << 21, 1 << 30, MOST_INT - 31, MOST_INT}) {
                    partAt(bench, a, from, n);
                }
                bench.allAsDue("parted");
            }
        }
    }

    private static void partOf0Bits() {
        Due.by("(0 for n 0");
        for (BigInteger a : EDGES) {
            Bench bench = new Bench(a);
            for (int from : new int[] {0, 1, 31, 32, 65535, 65536, MOST_INT}) {
                bench.puts("the greatest", bench.call().spread(1, -1, 1024), 1, MOST);
                partAt(bench, a, from, 0);
            }
        }
    }

    private static void partBehindTheEnd() {
        Due.by("(0 .. behind the end of a.)");
        for (BigInteger a : EDGES) {
            Bench bench = new Bench(a);
            int size = a.bitLength();
            for (int from : new int[] {size, size + 1, size + 31, size + 32, 65536, 65537, 1 << 17, 1 << 21,
                1 << 30, MOST_INT - 31, MOST_INT}) {
                bench.puts("the greatest", bench.call().spread(1, -1, 1024), 1, MOST);
                partAt(bench, a, from, 1);
                partAt(bench, a, from, MOST_INT);
            }
            // At the end itself there is still the highest 1.
            if (size > 0) {
                partAt(bench, a, size - 1, 1);
                partAt(bench, a, size - 1, MOST_INT);
                Due.is("the highest bit", 1, bench.call().word(1, 0));
            }
        }
    }

    private static void partBelow0() {
        Due.by("Refused, too, when from or n is below 0.");
        Bench bench = new Bench(MOST, number(99), ZERO);
        for (int below : new int[] {-1, -2, -32, -65536, LEAST_INT}) {
            for (int a = 0; a < 3; a++) {
                for (int other : new int[] {0, 1, 64, MOST_INT, below}) {
                    bench.refuses("part from " + below + " of " + other, bench.call().part(1, a, below, other));
                    bench.refuses("part from " + other + " of " + below, bench.call().part(1, a, other, below));
                }
            }
        }
        bench.allAsDue("refused");
    }

    // Promise 12

    private static void compareEdges() {
        Due.by("-1, 0 or 1 when a's number is below, equal to or above b's");
        Bench bench = new Bench(EDGES);
        for (int a = 0; a < EDGES.length; a++) {
            for (int b = 0; b < EDGES.length; b++) {
                Due.is("compare edges " + a + " and " + b, Integer.compare(a, b), bench.call().compare(a, b));
            }
        }
        compareNearOnes();
        Due.by("-2 when one of them is no register");
        bench = new Bench(ONE, MOST);
        for (int no : NO_REGISTERS) {
            for (int r : new int[] {0, 1, 2, 15, no, 16}) {
                Due.is("compare " + no + " and " + r, -2, bench.call().compare(no, r));
                Due.is("compare " + r + " and " + no, -2, bench.call().compare(r, no));
            }
        }
    }

    /** Numbers of one size that differ in a single bit, and equal numbers in two registers. */
    private static void compareNearOnes() {
        for (int bit : new int[] {0, 31, 32, 63, 64, 32768, 65503, 65504, 65534}) {
            Bench bench = new Bench(MOST, MOST.subtract(power(bit)), power(65535), power(65535).add(power(bit)));
            bench.puts("copy", bench.call().copy(4, 1), 4, MOST.subtract(power(bit)));
            Due.is("the greatest with one bit less, " + bit, 1, bench.call().compare(0, 1));
            Due.is("one bit less with the greatest, " + bit, -1, bench.call().compare(1, 0));
            Due.is("2^65535 with one bit more, " + bit, -1, bench.call().compare(2, 3));
            Due.is("one bit more with 2^65535, " + bit, 1, bench.call().compare(3, 2));
            Due.is("equal in two registers", 0, bench.call().compare(1, 4));
            Due.is("a register with itself", 0, bench.call().compare(3, 3));
        }
    }

    // Promise 13

    private static void bitsEdges() {
        Due.by("How many bits the number of r has up to its highest 1");
        for (int n : new int[] {0, 1, 30, 31, 32, 33, 63, 64, 65, 32767, 32768, 65503, 65504, 65535}) {
            Bench bench = new Bench(power(n), power(n).subtract(ONE));
            Due.is("bits of 2^" + n, n + 1, bench.call().bits(0));
            Due.is("bits of 2^" + n + " - 1", n, bench.call().bits(1));
        }
        Due.is("bits of the greatest", 65536, new Bench(MOST).call().bits(0));
        Due.by("(0 for 0)");
        Bench bench = new Bench(MOST);
        Due.is("bits of a new register", 0, bench.call().bits(1));
        bench.call().take(0, 0, 0);
        Due.is("bits of what has become 0", 0, bench.call().bits(0));
        Due.by("-1 when r is no register");
        for (int no : NO_REGISTERS) {
            Due.is("bits of " + no, -1, bench.call().bits(no));
        }
    }

    // Promise 14

    private static void wordEdges() {
        wordsOfANumber();
        Due.by("0 when r is no register");
        Bench bench = allOnes();
        for (int no : NO_REGISTERS) {
            for (int k : new int[] {0, 1, 2047, -1, LEAST_INT, MOST_INT}) {
                Due.is("word " + k + " of register " + no, 0, bench.call().word(no, k));
            }
        }
        Due.by("0 when .. k is below 0");
        for (int k : new int[] {-1, -2, -32, -2048, -65536, LEAST_INT}) {
            Due.is("word " + k, 0, bench.call().word(0, k));
            Due.is("word " + k + " of register 15", 0, bench.call().word(15, k));
        }
        wordsBehindTheEnd();
    }

    private static Bench allOnes() {
        Bench bench = new Bench();
        for (int r = 0; r < 16; r++) {
            bench.puts("the greatest", bench.call().spread(r, -1, 1024), r, MOST);
        }
        return bench;
    }

    private static void wordsOfANumber() {
        Due.by("WORD k of r, as an int");
        Bench bench = new Bench(sum(0x80000000FFFFFFFFL, 1024), sum(0x0123456789ABCDEFL, 5), number(7));
        for (int k : new int[] {0, 2, 1022, 1024, 2044, 2046}) {
            Due.is("even word " + k, -1, bench.call().word(0, k));
            Due.is("odd word " + (k + 1), LEAST_INT, bench.call().word(0, k + 1));
        }
        for (int k = 0; k < 10; k++) {
            Due.is("word " + k, k % 2 == 0 ? 0x89ABCDEF : 0x01234567, bench.call().word(1, k));
        }
        Due.is("word 0 of 7", 7, bench.call().word(2, 0));
    }

    private static void wordsBehindTheEnd() {
        Due.by("0 when .. k is .. behind its end");
        Bench bench = new Bench(MOST, ONE, ZERO, power(64), MOST);
        for (int k : new int[] {2048, 2049, 2050, 2051, 4096, 65536, 1 << 27, MOST_INT}) {
            for (int r = 0; r < 5; r++) {
                Due.is("word " + k + " of register " + r, 0, bench.call().word(r, k));
            }
        }
        Due.is("word 0 of 0", 0, bench.call().word(2, 0));
        Due.is("word 1 of 1", 0, bench.call().word(1, 1));
        Due.is("last word of 2^64", 1, bench.call().word(3, 2));
        Due.is("word behind 2^64", 0, bench.call().word(3, 3));
        // What stood there when the number was greater is gone.
        bench.puts("copy 1 over the greatest", bench.call().copy(4, 1), 4, ONE);
        for (int k : new int[] {1, 2, 3, 1000, 2046, 2047}) {
            Due.is("word " + k + " of what has become 1", 0, bench.call().word(4, k));
        }
    }

    // Promise 15

    private static void onesEdges() {
        Due.by("How many bits of r are 1");
        Bench bench = new Bench(ZERO, ONE, power(31), number(0xFFFFFFFFL), power(32), number(-1), power(65535), MOST,
            MOST.subtract(ONE), sum(0x5555555555555555L, 1024), power(32768).add(ONE));
        int[] want = {0, 1, 1, 32, 1, 64, 1, 65536, 65535, 32768, 2};
        for (int r = 0; r < want.length; r++) {
            Due.is("ones of number " + r, want[r], bench.call().ones(r));
        }
        bench.call().take(7, 7, 7);
        Due.is("ones of what has become 0", 0, bench.call().ones(7));
        Due.by("-1 when r is no register");
        for (int no : NO_REGISTERS) {
            Due.is("ones of " + no, -1, bench.call().ones(no));
        }
    }

    // Promise 16

    private static void lowestEdges() {
        Due.by("The number of the lowest bit of r that is 1");
        for (int n : new int[] {0, 1, 30, 31, 32, 33, 63, 64, 65, 32768, 65503, 65504, 65535}) {
            Bench bench = new Bench(power(n), power(65536).subtract(power(n)));
            Due.is("lowest of 2^" + n, n, bench.call().lowest(0));
            Due.is("lowest of ones from " + n + " on", n, bench.call().lowest(1));
        }
        Due.by("-1 when there is none");
        Bench bench = new Bench(MOST);
        Due.is("lowest of a new register", -1, bench.call().lowest(1));
        bench.call().take(0, 0, 0);
        Due.is("lowest of what has become 0", -1, bench.call().lowest(0));
        Due.by("-1 when .. r is no register");
        bench = allOnes();
        for (int no : NO_REGISTERS) {
            Due.is("lowest of " + no, -1, bench.call().lowest(no));
        }
    }

    // Promise 17

    private static void restEdges() {
        Due.by("What is left of r's number divided by m");
        Bench bench = new Bench(EDGES);
        for (int r = 0; r < EDGES.length; r++) {
            for (int m : new int[] {1, 2, 3, 7, 10, 65535, 65536, 65537, 1 << 30, MOST_INT - 1, MOST_INT}) {
                int want = EDGES[r].mod(BigInteger.valueOf(m)).intValue();
                Due.is("rest of edge " + r + " by " + m, want, bench.call().rest(r, m));
            }
        }
        bench.allAsDue("looked at");
        restAroundItsDivisor();
        Due.by("-1 when r is no register");
        bench = allOnes();
        for (int no : NO_REGISTERS) {
            for (int m : new int[] {1, 2, MOST_INT, 0, -1, LEAST_INT}) {
                Due.is("rest of " + no + " by " + m, -1, bench.call().rest(no, m));
            }
        }
        Due.by("-1 when .. m is below 1");
        bench = new Bench(MOST, ONE, ZERO, number(7));
        for (int m : new int[] {0, -1, -2, -7, -MOST_INT, LEAST_INT}) {
            for (int r = 0; r < 4; r++) {
                Due.is("rest of register " + r + " by " + m, -1, bench.call().rest(r, m));
            }
        }
    }

    private static void restAroundItsDivisor() {
        for (int m : new int[] {1, 2, 3, 65536, MOST_INT - 1, MOST_INT}) {
            Bench bench = new Bench(number(m - 1L), number(m), number(m + 1L), number(m).multiply(number(m)));
            Due.is("rest of one less than " + m, m - 1, bench.call().rest(0, m));
            Due.is("rest of " + m + " by itself", 0, bench.call().rest(1, m));
            Due.is("rest of one more than " + m, 1 % m, bench.call().rest(2, m));
            Due.is("rest of the square of " + m, 0, bench.call().rest(3, m));
        }
    }
}
