import java.math.BigInteger;

/** Each promise with ordinary inputs, the edges that the document names, and wrong inputs. */
public final class PromiseTest {
    private static final BigInteger ZERO = BigInteger.ZERO;
    private static final BigInteger ONE = BigInteger.ONE;
    private static final BigInteger MOST = power(65536).subtract(ONE);
    private static final int[] NO_REGISTERS = {-1, 16, 17, 32, Integer.MIN_VALUE, Integer.MAX_VALUE};

    public static void main(String[] args) {
        newObject();
        pushes();
        spreads();
        copies();
        sums();
        differences();
        products();
        quotients();
        roots();
        shifts();
        parts();
        comparisons();
        sizes();
        words();
        onesCounted();
        lowestOnes();
        rests();
        wrongRegisters();
        Due.finish();
    }

    private static BigInteger power(int n) {
        return ONE.shiftLeft(n);
    }

    private static BigInteger number(long bits) {
        return new BigInteger(Long.toUnsignedString(bits));
    }

    /** Register r is made want, of at most 6,400 bits, or a power of two, or the greatest number. */
    private static void put(WholeMill mill, int r, BigInteger want) {
        mill.spread(r, want.equals(MOST) ? -1L : 0L, 1024);
        if (want.equals(MOST)) {
            return;
        }
        if (want.bitCount() == 1) {
            mill.push(r, 1);
            mill.shift(r, r, want.bitLength() - 1);
            return;
        }
        for (int i = (want.bitLength() + 63) / 64 - 1; i >= 0; i--) {
            mill.push(r, want.shiftRight(64 * i).longValue());
        }
    }

    private static WholeMill with(BigInteger... numbers) {
        WholeMill mill = new WholeMill();
        for (int i = 0; i < numbers.length; i++) {
            put(mill, i, numbers[i]);
            Due.number("put", numbers[i], mill, i);
        }
        return mill;
    }

    private static void newObject() {
        WholeMill mill = new WholeMill();
        for (int r = 0; r < 16; r++) {
            Due.number("new", ZERO, mill, r);
            Due.is("new: word", 0, mill.word(r, 0));
        }
        // Two objects have nothing in common.
        WholeMill other = new WholeMill();
        mill.push(3, 5);
        Due.number("new: another object", ZERO, other, 3);
    }

    private static void pushes() {
        WholeMill mill = new WholeMill();
        Due.done("push a number", mill.push(0, 5));
        Due.number("push a number", number(5), mill, 0);
        Due.done("push without a sign", mill.push(0, -1));
        Due.number("push without a sign", number(5).shiftLeft(64).add(number(-1)), mill, 0);
        Due.done("push to 0", mill.push(1, 0));
        Due.number("push 0 to 0", ZERO, mill, 1);
        Due.done("push the highest bit", mill.push(15, Long.MIN_VALUE));
        Due.number("push the highest bit", power(63), mill, 15);

        mill = with(power(65471), power(65472), MOST);
        Due.done("push to 65,472 bits", mill.push(0, 7));
        Due.number("push to 65,472 bits", power(65535).add(number(7)), mill, 0);
        Due.refused("push to 65,473 bits", mill.push(1, 0));
        Due.number("push to 65,473 bits", power(65472), mill, 1);
        Due.refused("push to the greatest", mill.push(2, 1));
        Due.number("push to the greatest", MOST, mill, 2);
    }

    private static void spreads() {
        WholeMill mill = new WholeMill();
        Due.done("spread once", mill.spread(0, -2, 1));
        Due.number("spread once", number(-2), mill, 0);
        Due.done("spread 3 times", mill.spread(0, 0x8000000000000001L, 3));
        BigInteger three = number(0x8000000000000001L);
        three = three.add(three.shiftLeft(64)).add(three.shiftLeft(128));
        Due.number("spread 3 times", three, mill, 0);
        Due.refused("spread -1 times", mill.spread(0, 1, -1));
        Due.refused("spread 1025 times", mill.spread(0, 0, 1025));
        Due.refused("spread very often", mill.spread(0, 0, Integer.MAX_VALUE));
        Due.refused("spread least often", mill.spread(0, 0, Integer.MIN_VALUE));
        Due.number("spread refused", three, mill, 0);
        Due.done("spread 1024 times", mill.spread(0, -1, 1024));
        Due.number("spread 1024 times", MOST, mill, 0);
        Due.done("spread zeros", mill.spread(0, 0, 1024));
        Due.number("spread zeros", ZERO, mill, 0);
        mill.push(0, 9);
        Due.done("spread 0 times", mill.spread(0, 9, 0));
        Due.number("spread 0 times", ZERO, mill, 0);
    }

    private static void copies() {
        BigInteger a = power(3000).subtract(number(77));
        WholeMill mill = with(a, MOST);
        Due.done("copy", mill.copy(1, 0));
        Due.number("copy over a greater one", a, mill, 1);
        Due.number("copy keeps what it copies", a, mill, 0);
        Due.done("copy to itself", mill.copy(0, 0));
        Due.number("copy to itself", a, mill, 0);
        mill.push(0, 1);
        Due.number("a copy is its own", a, mill, 1);
        Due.done("copy 0", mill.copy(1, 5));
        Due.number("copy 0", ZERO, mill, 1);
    }

    private static void sums() {
        BigInteger a = power(640).subtract(ONE);
        WholeMill mill = with(a, ONE, MOST, power(65535));
        Due.done("add with carries", mill.add(5, 0, 1));
        Due.number("add with carries", power(640), mill, 5);
        Due.done("add the other way", mill.add(5, 1, 0));
        Due.number("add the other way", power(640), mill, 5);
        Due.done("add to itself", mill.add(0, 0, 0));
        Due.number("add to itself", a.shiftLeft(1), mill, 0);
        Due.done("add 0", mill.add(6, 2, 9));
        Due.number("add 0", MOST, mill, 6);
        Due.refused("add 1 to the greatest", mill.add(1, 2, 1));
        Due.number("add refused", ONE, mill, 1);
        Due.refused("add two halves", mill.add(3, 3, 3));
        Due.number("add refused", power(65535), mill, 3);
        mill.take(7, 2, 3);
        Due.done("add up to the greatest", mill.add(7, 7, 3));
        Due.number("add up to the greatest", MOST, mill, 7);
        mill.take(8, 2, 1);
        Due.done("add 1 below the greatest", mill.add(8, 8, 1));
        Due.number("add 1 below the greatest", MOST, mill, 8);
        Due.refused("add the greatest twice", mill.add(8, 2, 2));
    }

    private static void differences() {
        BigInteger a = power(640);
        WholeMill mill = with(a, ONE, MOST, number(-1));
        Due.done("take with borrows", mill.take(5, 0, 1));
        Due.number("take with borrows", a.subtract(ONE), mill, 5);
        Due.refused("take below 0", mill.take(5, 1, 0));
        Due.refused("take below 0 by 1", mill.take(5, 5, 0));
        Due.number("take refused", a.subtract(ONE), mill, 5);
        Due.done("take itself", mill.take(2, 2, 2));
        Due.number("take itself", ZERO, mill, 2);
        Due.done("take 0 from 0", mill.take(2, 2, 2));
        Due.refused("take 1 from 0", mill.take(2, 2, 1));
        Due.done("take words without a sign", mill.take(1, 3, 1));
        Due.number("take words without a sign", number(-2), mill, 1);
        Due.done("take into what is taken", mill.take(3, 0, 3));
        Due.number("take into what is taken", a.subtract(number(-1)), mill, 3);
    }

    private static void products() {
        BigInteger a = power(3200).subtract(ONE);
        BigInteger b = power(500).subtract(number(12345));
        WholeMill mill = with(a, b, MOST, power(32768), power(32767), ONE);
        Due.done("times", mill.times(6, 0, 1));
        Due.number("times", a.multiply(b), mill, 6);
        Due.done("times the other way", mill.times(6, 1, 0));
        Due.number("times the other way", a.multiply(b), mill, 6);
        Due.done("times itself", mill.times(0, 0, 0));
        Due.number("times itself", a.multiply(a), mill, 0);
        Due.done("times into a factor", mill.times(1, 0, 1));
        Due.number("times into a factor", a.multiply(a).multiply(b), mill, 1);
        Due.done("times 0", mill.times(7, 2, 9));
        Due.number("times 0", ZERO, mill, 7);
        Due.done("0 times", mill.times(7, 9, 2));
        Due.done("times 1", mill.times(7, 2, 5));
        Due.number("times 1", MOST, mill, 7);
        Due.refused("times with 65,537 bits", mill.times(3, 3, 3));
        Due.number("times refused", power(32768), mill, 3);
        Due.done("times with 65,536 bits", mill.times(8, 3, 4));
        Due.number("times with 65,536 bits", power(65535), mill, 8);
        Due.refused("times the greatest", mill.times(8, 2, 2));
        mill.add(9, 5, 5);
        Due.refused("the greatest times 2", mill.times(8, 2, 9));
        Due.number("times refused", power(65535), mill, 8);
        productsAtTheEnd();
    }

    /** Factors of 65,537 bits together: some of the products have 65,536 bits, some one too many. */
    private static void productsAtTheEnd() {
        WholeMill mill = with(power(32768), power(32768), ONE);
        mill.take(1, 1, 2);
        Due.done("2^32768 times one less", mill.times(3, 0, 1));
        Due.number("2^32768 times one less", power(65536).subtract(power(32768)), mill, 3);
        mill.add(4, 0, 2);
        Due.done("one more times one less", mill.times(5, 4, 1));
        Due.number("one more times one less", MOST, mill, 5);
        mill.add(4, 4, 2);
        Due.refused("two more times one less", mill.times(5, 4, 1));
        Due.number("two more times one less", MOST, mill, 5);
    }

    private static void divided(WholeMill mill, int a, int b, BigInteger dividend, BigInteger divisor) {
        String call = "divide register " + a + " by register " + b;
        BigInteger[] want = dividend.divideAndRemainder(divisor);
        Due.done(call, mill.divide(14, 15, a, b));
        Due.number(call, want[0], mill, 14);
        Due.number(call, want[1], mill, 15);
    }

    private static void quotients() {
        BigInteger[] n = {power(5000).subtract(number(9)), number(-1), power(2500).add(number(3)), MOST, ONE,
            number(7), power(65535)};
        for (int a = 0; a < n.length; a++) {
            WholeMill mill = with(n);
            for (int b = 0; b < n.length; b++) {
                divided(mill, a, b, n[a], n[b]);
            }
        }
        WholeMill mill = with(n);
        Due.done("divide 0", mill.divide(14, 15, 13, 0));
        Due.number("divide 0", ZERO, mill, 14);
        Due.number("divide 0", ZERO, mill, 15);
        Due.refused("divide by 0", mill.divide(4, 5, 0, 13));
        Due.refused("divide 0 by 0", mill.divide(4, 5, 13, 13));
        Due.refused("divide into one register", mill.divide(4, 4, 0, 1));
        Due.number("divide refused", n[4], mill, 4);
        Due.number("divide refused", n[5], mill, 5);
        Due.done("divide into its own registers", mill.divide(2, 0, 0, 2));
        Due.number("divide into its own registers", n[0].divide(n[2]), mill, 2);
        Due.number("divide into its own registers", n[0].mod(n[2]), mill, 0);
        Due.done("divide by itself into itself", mill.divide(3, 6, 3, 3));
        Due.number("divide by itself into itself", ONE, mill, 3);
        Due.number("divide by itself into itself", ZERO, mill, 6);
    }

    private static void rooted(BigInteger a) {
        WholeMill mill = with(a);
        String call = "root of " + a.bitLength() + " bits";
        BigInteger[] want = a.sqrtAndRemainder();
        Due.done(call, mill.root(14, 15, 0));
        Due.number(call, want[0], mill, 14);
        Due.number(call, want[1], mill, 15);
    }

    private static void roots() {
        for (int i = 0; i < 100; i++) {
            rooted(number(i));
        }
        for (int n = 1; n < 200; n++) {
            rooted(power(n));
            rooted(power(n).subtract(ONE));
        }
        rooted(power(65535));
        rooted(power(65534));
        rooted(MOST);
        BigInteger a = power(3000).subtract(number(5));
        BigInteger square = a.multiply(a);
        rooted(square);
        rooted(square.subtract(ONE));
        rooted(square.add(a).add(a));
        WholeMill mill = with(a, ONE);
        Due.refused("root into one register", mill.root(1, 1, 0));
        Due.number("root refused", ONE, mill, 1);
        Due.done("root into itself", mill.root(0, 1, 0));
        Due.number("root into itself", a.sqrt(), mill, 0);
        mill = with(a);
        Due.done("rest of the root into itself", mill.root(1, 0, 0));
        Due.number("rest of the root into itself", a.subtract(a.sqrt().pow(2)), mill, 0);
    }

    private static void shifts() {
        BigInteger a = power(3000).subtract(number(123456789));
        WholeMill mill = with(a, ONE, MOST, power(65535));
        for (int n : new int[] {0, 1, 31, 32, 33, 64, 1000, -1, -31, -32, -33, -64, -2999, -3000, -3001, -65536}) {
            Due.done("shift by " + n, mill.shift(4, 0, n));
            Due.number("shift by " + n, a.shiftLeft(n), mill, 4);
        }
        Due.done("shift to 65,536 bits", mill.shift(5, 0, 62536));
        Due.number("shift to 65,536 bits", a.shiftLeft(62536), mill, 5);
        Due.refused("shift to 65,537 bits", mill.shift(5, 0, 62537));
        Due.refused("shift very far", mill.shift(5, 0, Integer.MAX_VALUE));
        Due.number("shift refused", a.shiftLeft(62536), mill, 5);
        Due.done("shift 0 very far", mill.shift(5, 9, Integer.MAX_VALUE));
        Due.number("shift 0 very far", ZERO, mill, 5);
        for (int n : new int[] {-65536, -65537, -Integer.MAX_VALUE, Integer.MIN_VALUE}) {
            Due.done("shift by " + n, mill.shift(5, 2, n));
            Due.number("shift by " + n, ZERO, mill, 5);
            Due.done("shift 0 by " + n, mill.shift(5, 9, n));
        }
        Due.done("shift to the last bit", mill.shift(5, 2, -65535));
        Due.number("shift to the last bit", ONE, mill, 5);
        Due.done("shift the greatest by 0", mill.shift(5, 2, 0));
        Due.number("shift the greatest by 0", MOST, mill, 5);
        Due.refused("shift the greatest by 1", mill.shift(5, 2, 1));
        Due.done("shift itself to the left", mill.shift(0, 0, 77));
        Due.done("shift itself to the right", mill.shift(0, 0, -99));
        Due.number("shift itself", a.shiftRight(22), mill, 0);
    }

    private static void parts() {
        BigInteger a = power(3000).subtract(power(1500)).subtract(number(987654321));
        int[] at = {0, 1, 31, 32, 33, 64, 1499, 1500, 2999, 3000, 3001, 65535, 65536, Integer.MAX_VALUE};
        for (int from : at) {
            WholeMill mill = with(a);
            for (int n : at) {
                String call = "part from " + from + " of " + n;
                BigInteger mask = power(Math.min(n, 70000)).subtract(ONE);
                Due.done(call, mill.part(1, 0, from, n));
                Due.number(call, a.shiftRight(Math.min(from, 70000)).and(mask), mill, 1);
            }
        }
        WholeMill mill = with(MOST, a);
        Due.done("all of the greatest", mill.part(2, 0, 0, 65536));
        Due.number("all of the greatest", MOST, mill, 2);
        Due.done("the last bit of the greatest", mill.part(2, 0, 65535, Integer.MAX_VALUE));
        Due.number("the last bit of the greatest", ONE, mill, 2);
        Due.refused("part from below 0", mill.part(1, 0, -1, 3));
        Due.refused("part of below 0", mill.part(1, 0, 3, -1));
        Due.refused("part from the least", mill.part(1, 0, Integer.MIN_VALUE, 0));
        Due.refused("part of the least", mill.part(1, 0, 0, Integer.MIN_VALUE));
        Due.number("part refused", a, mill, 1);
        Due.done("part of itself", mill.part(1, 1, 40, 800));
        Due.number("part of itself", a.shiftRight(40).mod(power(800)), mill, 1);
    }

    private static void comparisons() {
        BigInteger[] n = {ZERO, ONE, number(Integer.MAX_VALUE), number(0x80000000L), number(0xFFFFFFFFL),
            power(32), number(Long.MIN_VALUE), number(-1), power(64), power(700).subtract(ONE), power(700),
            power(700).add(ONE), power(700).add(power(350)), power(65535), MOST};
        WholeMill mill = with(n);
        for (int a = 0; a < n.length; a++) {
            for (int b = 0; b < n.length; b++) {
                Due.is("compare " + a + " with " + b, n[a].compareTo(n[b]), mill.compare(a, b));
            }
        }
        for (int no : NO_REGISTERS) {
            Due.is("compare no register", -2, mill.compare(no, 0));
            Due.is("compare with no register", -2, mill.compare(0, no));
            Due.is("compare no register with itself", -2, mill.compare(no, no));
        }
    }

    private static void sizes() {
        WholeMill mill = with(ZERO, ONE, number(0xFFFFFFFFL), power(32), power(65535), MOST);
        int[] want = {0, 1, 32, 33, 65536, 65536};
        for (int r = 0; r < want.length; r++) {
            Due.is("bits of " + r, want[r], mill.bits(r));
        }
        for (int no : NO_REGISTERS) {
            Due.is("bits of no register", -1, mill.bits(no));
        }
    }

    private static void words() {
        BigInteger a = power(3000).subtract(power(1500)).subtract(number(987654321));
        WholeMill mill = with(a, MOST);
        for (int k = 0; k < 100; k++) {
            Due.is("word " + k, a.shiftRight(32 * k).intValue(), mill.word(0, k));
        }
        Due.is("last word", -1, mill.word(1, 2047));
        for (int k : new int[] {2048, 2049, 2050, 5000, Integer.MAX_VALUE, -1, Integer.MIN_VALUE}) {
            Due.is("word " + k, 0, mill.word(1, k));
        }
        mill.shift(1, 1, -65503);
        Due.is("word at the end of a number that was greater", 1, mill.word(1, 1));
        Due.is("word behind the end of a number that was greater", 0, mill.word(1, 2));
        for (int no : NO_REGISTERS) {
            Due.is("word of no register", 0, mill.word(no, 0));
        }
    }

    private static void onesCounted() {
        WholeMill mill = with(ZERO, ONE, number(-1), power(3000).subtract(ONE), power(65535), MOST);
        int[] want = {0, 1, 64, 3000, 1, 65536};
        for (int r = 0; r < want.length; r++) {
            Due.is("ones of " + r, want[r], mill.ones(r));
        }
        for (int no : NO_REGISTERS) {
            Due.is("ones of no register", -1, mill.ones(no));
        }
    }

    private static void lowestOnes() {
        WholeMill mill = with(ZERO, ONE, number(Long.MIN_VALUE), power(3000).subtract(power(1000)), power(65535),
            MOST, number(6));
        int[] want = {-1, 0, 63, 1000, 65535, 0, 1};
        for (int r = 0; r < want.length; r++) {
            Due.is("lowest of " + r, want[r], mill.lowest(r));
        }
        for (int no : NO_REGISTERS) {
            Due.is("lowest of no register", -1, mill.lowest(no));
        }
    }

    private static void rests() {
        BigInteger[] n = {ZERO, ONE, number(-1), power(3000).subtract(number(5)), power(65535), MOST};
        WholeMill mill = with(n);
        for (int r = 0; r < n.length; r++) {
            for (int m : new int[] {1, 2, 3, 10, 65536, 65537, 1 << 30, Integer.MAX_VALUE - 1, Integer.MAX_VALUE}) {
                Due.is("rest of " + r + " by " + m, n[r].mod(BigInteger.valueOf(m)).intValue(), mill.rest(r, m));
            }
            for (int m : new int[] {0, -1, -7, Integer.MIN_VALUE}) {
                Due.is("rest of " + r + " by " + m, -1, mill.rest(r, m));
            }
        }
        for (int no : NO_REGISTERS) {
            Due.is("rest of no register", -1, mill.rest(no, 5));
            Due.is("rest of no register by 0", -1, mill.rest(no, 0));
        }
    }

    /** Every call that puts something is refused for a wrong register in each of its places. */
    private static void wrongRegisters() {
        for (int no : NO_REGISTERS) {
            WholeMill mill = with(number(100), number(7), number(3));
            Due.refused("push into no register", mill.push(no, 1));
            Due.refused("spread into no register", mill.spread(no, 1, 1));
            Due.refused("copy into no register", mill.copy(no, 0));
            Due.refused("copy of no register", mill.copy(0, no));
            Due.refused("copy of no register into itself", mill.copy(no, no));
            for (int place = 0; place < 4; place++) {
                int d = place == 0 ? no : 0;
                int a = place == 1 ? no : 1;
                int b = place == 2 ? no : 2;
                if (place < 3) {
                    Due.refused("add without a register", mill.add(d, a, b));
                    Due.refused("take without a register", mill.take(d, a, b));
                    Due.refused("times without a register", mill.times(d, a, b));
                    Due.refused("root without a register", mill.root(d, a, b));
                }
                Due.refused("divide without a register", mill.divide(d, a, b, place == 3 ? no : 2));
                if (place < 2) {
                    Due.refused("shift without a register", mill.shift(d, a, 1));
                    Due.refused("shift right without a register", mill.shift(d, a, -1));
                    Due.refused("part without a register", mill.part(d, a, 0, 1));
                }
            }
            Due.number("refused", number(100), mill, 0);
            Due.number("refused", number(7), mill, 1);
            Due.number("refused", number(3), mill, 2);
        }
    }
}
