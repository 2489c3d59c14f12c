import java.math.BigInteger;

/** Each sentence of the document's "Terms", and of what it says of every call, at its boundaries. */
public final class TermsTest {
    private static final BigInteger ZERO = Bench.ZERO;
    private static final BigInteger ONE = Bench.ONE;
    private static final BigInteger MOST = Bench.MOST;
    private static final BigInteger HALF = power(65535);
    private static final int[] NO_REGISTERS = {-1, 16, -16, 17, 31, 32, 256, 65536, Integer.MIN_VALUE,
        Integer.MAX_VALUE};

    public static void main(String[] args) {
        atMost512Calls();
        registersAre0To15();
        numbersAreUpToTheGreatest();
        zeroAtFirst();
        wordsAreOf32Bits();
        doneAnswersTrue();
        refusedWithoutARegister();
        refusedForOneRegisterTwice();
        refusedBelow0();
        refusedAboveTheGreatest();
        refusedChangesNothing();
        refusedLeavesNoTraceInLaterCalls();
        copyTakesFirst();
        addTakesFirst();
        takeTakesFirst();
        timesTakesFirst();
        divideTakesFirst();
        rootTakesFirst();
        shiftAndPartTakeFirst();
        looksChangeNothing();
        objectsAreApart();
        Due.finish();
    }

    private static BigInteger power(int n) {
        return Bench.power(n);
    }

    private static BigInteger number(long bits) {
        return Bench.number(bits);
    }

    private static void atMost512Calls() {
        Due.by("An object is used for at most 512 calls");
        Bench bench = new Bench(MOST, number(3));
        while (bench.callsMade() < 510) {
            bench.call().divide(2, 3, 0, 1);
        }
        Due.done("call 511", bench.call().root(4, 5, 2));
        BigInteger root = MOST.divide(number(3)).sqrt();
        Due.is("call 512", root.mod(number(1000003)).intValue(), bench.call().rest(4, 1000003));

        bench = new Bench();
        while (bench.callsMade() < 512) {
            Due.done("push " + bench.callsMade(), bench.call().push(0, -1));
        }
    }

    private static void registersAre0To15() {
        Due.by("REGISTERS are 0 .. 15.");
        Bench bench = new Bench();
        for (int r = 0; r < 16; r++) {
            bench.puts("push into register " + r, bench.call().push(r, 100 + r), r, number(100 + r));
        }
        bench.allAsDue("each has its own number");
        bench.refuses("push into register -1", bench.call().push(-1, 5));
        bench.refuses("push into register 16", bench.call().push(16, 5));
        Due.is("bits of register -1", -1, bench.call().bits(-1));
        Due.is("bits of register 16", -1, bench.call().bits(16));
        bench.allAsDue("no register is another one");
    }

    private static void numbersAreUpToTheGreatest() {
        Due.by("Each has a NUMBER from 0 to 2^65536 - 1");
        Bench bench = new Bench();
        for (int r = 0; r < 16; r++) {
            bench.puts("the greatest into register " + r, bench.call().spread(r, -1, 1024), r, MOST);
        }
        bench.allAsDue("all are the greatest");
        for (int r = 0; r < 16; r++) {
            bench.puts("0 into register " + r, bench.call().take(r, r, r), r, ZERO);
        }
        bench.allAsDue("all are 0");
    }

    private static void zeroAtFirst() {
        Due.by("0 at first");
        Bench bench = new Bench();
        bench.allAsDue("new");
        for (int r = 0; r < 16; r++) {
            Due.is("new: compare with register " + r, 0, bench.call().compare(0, r));
            Due.is("new: word 0 of register " + r, 0, bench.call().word(r, 0));
            Due.is("new: word 2047 of register " + r, 0, bench.call().word(r, 2047));
        }
    }

    private static void wordsAreOf32Bits() {
        Due.by("WORD k of a number, k from 0 on, is its bits 32 * k to 32 * k + 31 (bit 0 is the lowest).");
        for (int bit : new int[] {0, 1, 30, 31, 32, 33, 63, 64, 95, 96, 32767, 32768, 65503, 65504, 65534, 65535}) {
            Bench bench = new Bench(power(bit), MOST.subtract(power(bit)));
            int k = bit / 32;
            int word = 1 << (bit % 32);
            for (int i = Math.max(k - 2, 0); i <= k + 2; i++) {
                String call = "word " + i;
                Due.is(call + " of 2^" + bit, i == k ? word : 0, bench.call().word(0, i));
                int rest = i > 2047 ? 0 : i == k ? ~word : -1;
                Due.is(call + " of all but 2^" + bit, rest, bench.call().word(1, i));
            }
        }
    }

    private static void doneAnswersTrue() {
        Due.by("A call that puts numbers into registers answers true when that is done.");
        Bench bench = new Bench(number(100), number(7));
        bench.puts("push", bench.call().push(2, 9), 2, number(9));
        bench.puts("spread", bench.call().spread(3, 9, 1), 3, number(9));
        bench.puts("copy", bench.call().copy(4, 0), 4, number(100));
        bench.puts("add", bench.call().add(5, 0, 1), 5, number(107));
        bench.puts("take", bench.call().take(6, 0, 1), 6, number(93));
        bench.puts("times", bench.call().times(7, 0, 1), 7, number(700));
        bench.puts("divide", bench.call().divide(8, 9, 0, 1), 8, number(14), 9, number(2));
        bench.puts("root", bench.call().root(10, 11, 1), 10, number(2), 11, number(3));
        bench.puts("shift", bench.call().shift(12, 1, 1), 12, number(14));
        bench.puts("shift right", bench.call().shift(13, 1, -1), 13, number(3));
        bench.puts("part", bench.call().part(14, 0, 2, 4), 14, number(9));
        bench.allAsDue("nothing else is put");
        donePuttingWhatWasThere();
    }

    /** Done means done, though the registers are then as before. */
    private static void donePuttingWhatWasThere() {
        Bench bench = new Bench(number(100), ONE);
        Due.done("push 0 to 0", bench.call().push(2, 0));
        Due.done("spread what was there", bench.call().spread(0, 100, 1));
        Due.done("copy to itself", bench.call().copy(0, 0));
        Due.done("add 0", bench.call().add(0, 0, 2));
        Due.done("take 0", bench.call().take(0, 0, 2));
        Due.done("times 1", bench.call().times(0, 0, 1));
        Due.done("divide by 1", bench.call().divide(0, 2, 0, 1));
        Due.done("root of 1", bench.call().root(1, 2, 1));
        Due.done("root of 0", bench.call().root(2, 3, 2));
        Due.done("shift by 0", bench.call().shift(0, 0, 0));
        Due.done("part of all", bench.call().part(0, 0, 0, 7));
        bench.allAsDue("all is as before");
    }

    /** All registers are alike, so that each call would be done if the wrong one were taken for any of them. */
    private static void refusedWithoutARegister() {
        Due.by("refused, changes nothing and answers false when a register is none of these");
        for (int no : NO_REGISTERS) {
            Bench bench = new Bench();
            for (int r = 0; r < 16; r++) {
                bench.puts("push", bench.call().push(r, 100), r, number(100));
            }
            String with = " with register " + no;
            bench.refuses("push" + with, bench.call().push(no, 1));
            bench.refuses("spread" + with, bench.call().spread(no, 1, 1));
            bench.refuses("spread nothing" + with, bench.call().spread(no, 1, 0));
            // Once more with others, as one register twice would be refused for that.
            refusedInSomePlaces(bench, no, 0);
            refusedInSomePlaces(bench, no, 5);
            bench.allAsDue("refused" + with);
        }
    }

    /** The other places have registers from first on. Each bit of places says whether that place has no register. */
    private static void refusedInSomePlaces(Bench bench, int no, int first) {
        for (int places = 1; places < 16; places++) {
            int one = (places & 1) != 0 ? no : first;
            int two = (places & 2) != 0 ? no : first + 1;
            int three = (places & 4) != 0 ? no : first + 2;
            int four = (places & 8) != 0 ? no : first + 3;
            String at = " with register " + no + " in places " + places;
            bench.refuses("divide" + at, bench.call().divide(one, two, three, four));
            if (places < 8) {
                bench.refuses("add" + at, bench.call().add(one, two, three));
                bench.refuses("take" + at, bench.call().take(one, two, three));
                bench.refuses("times" + at, bench.call().times(one, two, three));
                bench.refuses("root" + at, bench.call().root(one, two, three));
            }
            if (places < 4) {
                bench.refuses("copy" + at, bench.call().copy(one, two));
                bench.refuses("shift by 0" + at, bench.call().shift(one, two, 0));
                bench.refuses("shift left" + at, bench.call().shift(one, two, 1));
                bench.refuses("shift right" + at, bench.call().shift(one, two, -1));
                bench.refuses("part" + at, bench.call().part(one, two, 0, 1));
                bench.refuses("part of nothing" + at, bench.call().part(one, two, 0, 0));
            }
        }
    }

    private static void refusedForOneRegisterTwice() {
        Due.by("two registers into which it puts something are the same");
        Bench bench = new Bench(number(5), number(4), number(2), MOST, power(40000), number(77));
        for (int d = 0; d < 16; d += 5) {
            String call = " into register " + d + " twice";
            bench.refuses("divide" + call, bench.call().divide(d, d, 3, 4));
            bench.refuses("divide with quotient and rest the same" + call, bench.call().divide(d, d, 0, 1));
            bench.refuses("divide 0" + call, bench.call().divide(d, d, 9, 1));
            bench.refuses("divide by 0" + call, bench.call().divide(d, d, 1, 9));
            bench.refuses("divide by itself" + call, bench.call().divide(d, d, d, d));
            bench.refuses("root" + call, bench.call().root(d, d, 3));
            bench.refuses("root with a rest the same" + call, bench.call().root(d, d, 2));
            bench.refuses("root of 0" + call, bench.call().root(d, d, 9));
            bench.refuses("root of itself" + call, bench.call().root(d, d, d));
        }
        bench.allAsDue("refused");
    }

    private static void refusedBelow0() {
        Due.by("a number to be put would be below 0");
        BigInteger[] upward = {ZERO, ONE, number(0x7FFFFFFFL), number(0x80000000L), number(0xFFFFFFFFL), power(32),
            number(-1), power(64), power(65535).subtract(ONE), power(65535), power(65535).add(ONE),
            MOST.subtract(ONE), MOST};
        for (int a = 0; a < upward.length; a++) {
            Bench bench = new Bench(upward);
            for (int b = a + 1; b < upward.length; b++) {
                String call = "take number " + b + " from number " + a;
                bench.refuses(call, bench.call().take(15, a, b));
                bench.refuses(call + " into the first", bench.call().take(a, a, b));
                bench.refuses(call + " into the second", bench.call().take(b, a, b));
            }
            bench.allAsDue("refused");
            bench.puts("take a number from itself", bench.call().take(15, a, a), 15, ZERO);
        }
    }

    private static void refusedAboveTheGreatest() {
        Due.by("a number to be put would be .. above 2^65536 - 1");
        Bench bench = new Bench(MOST, ONE, number(2), HALF, power(32768), power(65472));
        bench.refuses("push 0 to 2^65472", bench.call().push(5, 0));
        bench.refuses("push to the greatest", bench.call().push(0, -1));
        bench.refuses("add 1 to the greatest", bench.call().add(6, 0, 1));
        bench.refuses("add the greatest to 1", bench.call().add(6, 1, 0));
        bench.refuses("add the greatest to itself", bench.call().add(6, 0, 0));
        bench.refuses("add 2^65535 to itself", bench.call().add(6, 3, 3));
        bench.refuses("2^32768 times itself", bench.call().times(6, 4, 4));
        bench.refuses("2^65535 times 2", bench.call().times(6, 3, 2));
        bench.refuses("2 times 2^65535", bench.call().times(6, 2, 3));
        bench.refuses("the greatest times itself", bench.call().times(6, 0, 0));
        bench.refuses("2^65535 shifted by 1", bench.call().shift(6, 3, 1));
        bench.refuses("1 shifted by 65,536", bench.call().shift(6, 1, 65536));
        bench.refuses("the greatest shifted by 1", bench.call().shift(6, 0, 1));
        bench.allAsDue("refused");
        bench.puts("the greatest is not too great", bench.call().add(6, 0, 7), 6, MOST);
    }

    /** Numbers of many sizes in the registers, and a refused call of every kind. */
    private static void refusedChangesNothing() {
        Due.by("It is refused, changes nothing and answers false");
        Bench bench = new Bench(MOST, ONE, HALF, power(32768), ZERO, number(-1), power(33), power(65472),
            MOST.subtract(ONE), power(1000).subtract(number(5)), power(40000), number(2), number(3),
            power(65535).subtract(ONE), number(4));
        bench.refuses("push", bench.call().push(7, 0));
        bench.refuses("push to the greatest", bench.call().push(0, 0));
        bench.refuses("spread", bench.call().spread(0, 0, -1));
        bench.refuses("spread", bench.call().spread(9, -1, 1025));
        bench.refuses("copy", bench.call().copy(1, 16));
        bench.refuses("add", bench.call().add(0, 0, 1));
        bench.refuses("add", bench.call().add(1, 0, 1));
        bench.refuses("add", bench.call().add(4, 2, 2));
        bench.refuses("take", bench.call().take(0, 8, 0));
        bench.refuses("take", bench.call().take(8, 8, 0));
        bench.refuses("take", bench.call().take(4, 4, 1));
        bench.refuses("times", bench.call().times(3, 3, 3));
        bench.refuses("times", bench.call().times(11, 11, 2));
        bench.refuses("times", bench.call().times(4, 10, 3));
        bench.refuses("divide", bench.call().divide(0, 1, 2, 4));
        bench.refuses("divide", bench.call().divide(6, 6, 0, 5));
        bench.refuses("divide", bench.call().divide(6, 16, 0, 5));
        bench.refuses("divide", bench.call().divide(-1, 6, 0, 5));
        bench.refuses("root", bench.call().root(6, 6, 0));
        bench.refuses("root", bench.call().root(6, 16, 0));
        bench.refuses("root", bench.call().root(-1, 6, 0));
        bench.refuses("shift", bench.call().shift(1, 1, 65536));
        bench.refuses("shift", bench.call().shift(0, 0, 1));
        bench.refuses("part", bench.call().part(0, 5, -1, 5));
        bench.refuses("part", bench.call().part(0, 5, 5, -1));
        bench.allAsDue("refused");
    }

    /** What a refused call has worked out may not show in the calls behind it. */
    private static void refusedLeavesNoTraceInLaterCalls() {
        Due.by("It is refused, changes nothing");
        Bench bench = new Bench(MOST, number(6), number(4), power(32768));
        bench.refuses("add", bench.call().add(5, 0, 0));
        bench.puts("add behind", bench.call().add(5, 1, 2), 5, number(10));
        bench.refuses("add", bench.call().add(5, 0, 0));
        bench.puts("take behind", bench.call().take(5, 1, 2), 5, number(2));
        bench.refuses("times", bench.call().times(5, 3, 3));
        bench.puts("times behind", bench.call().times(5, 1, 2), 5, number(24));
        bench.refuses("times", bench.call().times(5, 3, 3));
        bench.puts("divide behind", bench.call().divide(5, 6, 1, 2), 5, ONE, 6, number(2));
        bench.refuses("add", bench.call().add(5, 0, 1));
        bench.puts("root behind", bench.call().root(5, 6, 1), 5, number(2), 6, number(2));
        bench.refuses("add", bench.call().add(5, 0, 1));
        bench.puts("shift behind", bench.call().shift(5, 1, 1), 5, number(12));
        bench.refuses("add", bench.call().add(5, 0, 1));
        bench.puts("shift right behind", bench.call().shift(5, 1, -1), 5, number(3));
        bench.refuses("add", bench.call().add(5, 0, 1));
        bench.puts("part behind", bench.call().part(5, 1, 1, 1), 5, ONE);
        bench.refuses("add", bench.call().add(5, 0, 1));
        bench.puts("push behind", bench.call().push(5, 9), 5, power(64).add(number(9)));
        bench.refuses("add", bench.call().add(5, 0, 1));
        bench.puts("spread behind", bench.call().spread(5, 8, 1), 5, number(8));
    }

    private static final String FIRST =
        "A register out of which it takes a number may be one into which it puts one: all are taken first.";

    private static void copyTakesFirst() {
        Due.by(FIRST);
        Bench bench = new Bench(MOST, number(7));
        bench.puts("copy(0, 0)", bench.call().copy(0, 0), 0, MOST);
        bench.puts("copy(1, 1)", bench.call().copy(1, 1), 1, number(7));
        bench.puts("copy(2, 2)", bench.call().copy(2, 2), 2, ZERO);
        bench.allAsDue("copy into itself");
    }

    /** The registers that three places may have in common, first the one that is put. */
    private static final int[][] IN_COMMON = {{0, 0, 1}, {1, 0, 1}, {0, 1, 0}, {1, 1, 0}, {0, 0, 0}, {1, 1, 1},
        {2, 0, 0}, {2, 1, 1}};

    private static void addTakesFirst() {
        Due.by(FIRST);
        BigInteger[] n = {power(2000).subtract(ONE), number(-1)};
        for (int[] c : IN_COMMON) {
            Bench bench = new Bench(n);
            String call = "add(" + c[0] + ", " + c[1] + ", " + c[2] + ")";
            bench.puts(call, bench.call().add(c[0], c[1], c[2]), c[0], n[c[1]].add(n[c[2]]));
            bench.allAsDue(call);
        }
    }

    private static void takeTakesFirst() {
        Due.by(FIRST);
        BigInteger[] n = {power(2000), number(-1)};
        for (int[] c : IN_COMMON) {
            Bench bench = new Bench(n);
            String call = "take(" + c[0] + ", " + c[1] + ", " + c[2] + ")";
            BigInteger want = n[c[1]].subtract(n[c[2]]);
            boolean got = bench.call().take(c[0], c[1], c[2]);
            if (want.signum() < 0) {
                bench.refuses(call, got);
            } else {
                bench.puts(call, got, c[0], want);
            }
            bench.allAsDue(call);
        }
    }

    private static void timesTakesFirst() {
        Due.by(FIRST);
        BigInteger[] n = {power(2000).subtract(number(3)), power(97).subtract(ONE)};
        for (int[] c : IN_COMMON) {
            Bench bench = new Bench(n);
            String call = "times(" + c[0] + ", " + c[1] + ", " + c[2] + ")";
            bench.puts(call, bench.call().times(c[0], c[1], c[2]), c[0], n[c[1]].multiply(n[c[2]]));
            bench.allAsDue(call);
        }
    }

    /** With every four of four registers, a sixteenth of them refused. */
    private static void divideTakesFirst() {
        Due.by(FIRST);
        BigInteger[] n = {power(2000).subtract(number(3)), power(97).subtract(ONE), power(300), number(12345)};
        for (int i = 0; i < 256; i++) {
            int q = i & 3;
            int r = i >> 2 & 3;
            int a = i >> 4 & 3;
            int b = i >> 6 & 3;
            Bench bench = new Bench(n);
            String call = "divide(" + q + ", " + r + ", " + a + ", " + b + ")";
            boolean got = bench.call().divide(q, r, a, b);
            if (q == r) {
                bench.refuses(call, got);
            } else {
                bench.puts(call, got, q, n[a].divide(n[b]), r, n[a].mod(n[b]));
            }
            bench.allAsDue(call);
        }
    }

    private static void rootTakesFirst() {
        Due.by(FIRST);
        BigInteger[] n = {power(2000).subtract(number(3)), power(97).subtract(ONE), number(12345)};
        for (int i = 0; i < 27; i++) {
            int s = i % 3;
            int r = i / 3 % 3;
            int a = i / 9;
            Bench bench = new Bench(n);
            String call = "root(" + s + ", " + r + ", " + a + ")";
            boolean got = bench.call().root(s, r, a);
            if (s == r) {
                bench.refuses(call, got);
            } else {
                BigInteger root = n[a].sqrt();
                bench.puts(call, got, s, root, r, n[a].subtract(root.multiply(root)));
            }
            bench.allAsDue(call);
        }
    }

    private static void shiftAndPartTakeFirst() {
        Due.by(FIRST);
        BigInteger a = power(2000).subtract(number(0x123456789ABCDEFL));
        for (int n : new int[] {0, 1, 31, 32, 33, 64, 1000, 63536, -1, -31, -32, -33, -64, -1000, -1999, -2000}) {
            Bench bench = new Bench(a, MOST);
            bench.puts("shift itself by " + n, bench.call().shift(0, 0, n), 0, a.shiftLeft(n));
            bench.allAsDue("shift itself by " + n);
        }
        for (int from : new int[] {0, 1, 31, 32, 33, 64, 1000, 1999, 2000}) {
            Bench bench = new Bench(a, MOST);
            BigInteger want = a.shiftRight(from).mod(power(777));
            bench.puts("part of itself from " + from, bench.call().part(0, 0, from, 777), 0, want);
            bench.allAsDue("part of itself from " + from);
        }
    }

    private static void looksChangeNothing() {
        Due.by("Nothing is promised beyond the answers and state changes described above");
        Bench bench = new Bench(MOST, ZERO, power(65535), number(-1), power(1000).subtract(number(5)));
        for (int r = -1; r <= 16; r++) {
            bench.call().compare(r, 0);
            bench.call().compare(0, r);
            bench.call().bits(r);
            bench.call().word(r, 0);
            bench.call().word(r, 2047);
            bench.call().word(r, 2048);
            bench.call().ones(r);
            bench.call().lowest(r);
            bench.call().rest(r, 1);
            bench.call().rest(r, Integer.MAX_VALUE);
            bench.call().rest(r, 0);
        }
        bench.allAsDue("looked at");
    }

    private static void objectsAreApart() {
        Due.by("All registers are 0.");
        Bench one = new Bench(MOST, number(5));
        Bench other = new Bench();
        other.allAsDue("made beside another object");
        other.puts("push to the other object", other.call().push(0, 3), 0, number(3));
        one.refuses("add in the one", one.call().add(2, 0, 0));
        other.puts("add in the other", other.call().add(1, 0, 0), 1, number(6));
        one.allAsDue("the one");
        other.allAsDue("the other");
    }
}
