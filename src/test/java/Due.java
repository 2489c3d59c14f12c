import java.math.BigInteger;

/** Counts the answers that are not the ones that are due, for the tests beside it. */
final class Due {
    static final int CALLS_FOR_A_NUMBER = 6;

    private static int checked = 0;
    private static int wrong = 0;
    private static String sentence = "";

    private Due() {
    }

    /** What is checked from here on is what this sentence of the document says. */
    static void by(String text) {
        sentence = "\"" + text + "\": ";
    }

    static void is(String call, long want, long got) {
        checked++;
        if (got != want) {
            wrong++;
            System.out.println(sentence + call + " answered " + got + ", due is " + want);
        }
    }

    static void done(String call, boolean got) {
        is(call, 1, got ? 1 : 0);
    }

    static void refused(String call, boolean got) {
        is(call, 0, got ? 1 : 0);
    }

    /** Register r has the number want, as far as some calls that look at a register tell it. */
    static void number(String call, BigInteger want, WholeMill mill, int r) {
        String of = call + ": register " + r + ": ";
        is(of + "bits", want.bitLength(), mill.bits(r));
        is(of + "ones", want.bitCount(), mill.ones(r));
        is(of + "lowest", want.getLowestSetBit(), mill.lowest(r));
        for (int m : new int[] {2147483647, 1000000007, 998244353}) {
            is(of + "rest by " + m, want.mod(BigInteger.valueOf(m)).intValue(), mill.rest(r, m));
        }
    }

    static void finish() {
        System.out.println(wrong == 0 ? checked + " answers are as due" : wrong + " answers are not as due");
        if (wrong != 0) {
            System.exit(1);
        }
    }
}
