/**
 * Whole numbers without a sign, of up to 65,536 bits, in sixteen registers.
 *
 * Every call works on rows of words that the constructor has made, so that no call makes an object.
 * What is to be put into registers is first worked out in rows beside them: a refused call has changed
 * nothing, and a register may be taken from and put into by the same call.
 */
public final class WholeMill {
    private static final int REGISTERS = 16;
    private static final int MOST_BITS = 65536;
    private static final int MOST_SPREAD = 1024;
    /** 2,048 words of a register, one that a sum, a product or a shift may need above them, and one spare. */
    private static final int ROW = 2050;
    private static final long LOW_WORD = 0xFFFFFFFFL;
    private static final long HIGHEST_BIT = 0x8000000000000000L;

    private final Whole[] registers;
    private final Whole result;
    private final Whole left;
    private final Whole helper;

    public WholeMill() {
        registers = new Whole[REGISTERS];
        for (int i = 0; i < REGISTERS; i++) {
            registers[i] = new Whole();
        }
        result = new Whole();
        left = new Whole();
        helper = new Whole();
    }

    public boolean push(int r, long bits) {
        if (!isRegister(r) || registers[r].size() > MOST_BITS - 64) {
            return false;
        }
        result.becomeShiftedLeft(registers[r], 64);
        result.fillLowestPair(bits);
        return keepResult(r);
    }

    public boolean spread(int r, long bits, int n) {
        if (!isRegister(r) || n < 0 || n > MOST_SPREAD) {
            return false;
        }
        result.becomePairs(bits, n);
        return keepResult(r);
    }

    public boolean copy(int d, int a) {
        if (!isRegister(d) || !isRegister(a)) {
            return false;
        }
        registers[d].become(registers[a]);
        return true;
    }

    public boolean add(int d, int a, int b) {
        if (!isRegister(d) || !isRegister(a) || !isRegister(b)) {
            return false;
        }
        result.becomeSum(registers[a], registers[b]);
        return keepResult(d);
    }

    public boolean take(int d, int a, int b) {
        if (!isRegister(d) || !isRegister(a) || !isRegister(b)) {
            return false;
        }
        if (registers[a].order(registers[b]) < 0) {
            return false;
        }
        result.becomeDifference(registers[a], registers[b]);
        return keepResult(d);
    }

    public boolean times(int d, int a, int b) {
        if (!isRegister(d) || !isRegister(a) || !isRegister(b)) {
            return false;
        }
        // A product has as many bits as its factors together, or one less: what is surely too great is not worked out.
        if (registers[a].size() + registers[b].size() > MOST_BITS + 1) {
            return false;
        }
        result.becomeProduct(registers[a], registers[b]);
        return keepResult(d);
    }

    public boolean divide(int q, int r, int a, int b) {
        if (!isRegister(q) || !isRegister(r) || !isRegister(a) || !isRegister(b)) {
            return false;
        }
        if (q == r || registers[b].length == 0) {
            return false;
        }
        Division.find(registers[a], registers[b], result, left, helper);
        registers[q].become(result);
        registers[r].become(left);
        return true;
    }

    public boolean root(int s, int r, int a) {
        if (!isRegister(s) || !isRegister(r) || !isRegister(a) || s == r) {
            return false;
        }
        SquareRoot.find(registers[a], result, left, helper);
        registers[s].become(result);
        registers[r].become(left);
        return true;
    }

    public boolean shift(int d, int a, int n) {
        if (!isRegister(d) || !isRegister(a)) {
            return false;
        }
        if (n <= 0 || registers[a].length == 0) {
            result.becomeShiftedRight(registers[a], n <= -MOST_BITS ? MOST_BITS : Math.abs(n));
            return keepResult(d);
        }
        if (n > MOST_BITS - registers[a].size()) {
            return false;
        }
        result.becomeShiftedLeft(registers[a], n);
        return keepResult(d);
    }

    public boolean part(int d, int a, int from, int n) {
        if (!isRegister(d) || !isRegister(a) || from < 0 || n < 0) {
            return false;
        }
        result.becomeShiftedRight(registers[a], Math.min(from, MOST_BITS));
        result.keepLowest(n);
        return keepResult(d);
    }

    public int compare(int a, int b) {
        return isRegister(a) && isRegister(b) ? registers[a].order(registers[b]) : -2;
    }

    public int bits(int r) {
        return isRegister(r) ? registers[r].size() : -1;
    }

    public int word(int r, int k) {
        if (!isRegister(r) || k < 0 || k >= registers[r].length) {
            return 0;
        }
        return registers[r].words[k];
    }

    public int ones(int r) {
        return isRegister(r) ? registers[r].countOnes() : -1;
    }

    public int lowest(int r) {
        return isRegister(r) ? registers[r].lowestOne() : -1;
    }

    public int rest(int r, int m) {
        return isRegister(r) && m >= 1 ? registers[r].remainder(m) : -1;
    }

    private static boolean isRegister(int r) {
        return r >= 0 && r < REGISTERS;
    }

    private boolean keepResult(int d) {
        if (result.size() > MOST_BITS) {
            return false;
        }
        registers[d].become(result);
        return true;
    }

    /**
     * A whole number in words of 32 bits, the lowest first. Between calls the words from length on are 0
     * and the one below is not, so that a row may be read a little above its number.
     */
    private static final class Whole {
        final int[] words;
        int length;

        Whole() {
            words = new int[ROW];
            length = 0;
        }

        /** Makes the number what the words below count are, after they have been written. */
        void settle(int count) {
            for (int i = count; i < length; i++) {
                words[i] = 0;
            }
            length = count;
            while (length > 0 && words[length - 1] == 0) {
                length--;
            }
        }

        void clear() {
            settle(0);
        }

        void become(Whole other) {
            System.arraycopy(other.words, 0, words, 0, other.length);
            settle(other.length);
        }

        void becomePairs(long pair, int count) {
            for (int i = 0; i < count; i++) {
                words[2 * i] = (int) pair;
                words[2 * i + 1] = (int) (pair >>> 32);
            }
            settle(2 * count);
        }

        void fillLowestPair(long pair) {
            words[0] = (int) pair;
            words[1] = (int) (pair >>> 32);
            settle(Math.max(length, 2));
        }

        void becomeSum(Whole a, Whole b) {
            int count = Math.max(a.length, b.length);
            long carry = 0;
            for (int i = 0; i < count; i++) {
                carry += (a.words[i] & LOW_WORD) + (b.words[i] & LOW_WORD);
                words[i] = (int) carry;
                carry >>>= 32;
            }
            words[count] = (int) carry;
            settle(count + 1);
        }

        /** b is not above a. */
        void becomeDifference(Whole a, Whole b) {
            int count = a.length;
            long borrow = 0;
            for (int i = 0; i < count; i++) {
                long word = (a.words[i] & LOW_WORD) - (b.words[i] & LOW_WORD) - borrow;
                words[i] = (int) word;
                borrow = word >>> 63;
            }
            settle(count);
        }

        /** Neither factor is this row, and both together have at most 2,049 words. */
        void becomeProduct(Whole a, Whole b) {
            clear();
            for (int i = 0; i < a.length; i++) {
                if (a.words[i] != 0) {
                    long carry = Rows.addMultiple(words, i, b.words, b.length, a.words[i] & LOW_WORD);
                    words[i + b.length] = (int) carry;
                }
            }
            settle(a.length + b.length);
        }

        /** a is not this row, and the outcome has at most 2,049 words. */
        void becomeShiftedLeft(Whole a, int count) {
            int whole = count >>> 5;
            int odd = count & 31;
            clear();
            long carry = 0;
            for (int i = 0; i < a.length; i++) {
                carry |= (a.words[i] & LOW_WORD) << odd;
                words[i + whole] = (int) carry;
                carry >>>= 32;
            }
            words[a.length + whole] = (int) carry;
            settle(a.length + whole + 1);
        }

        /** a may be this row: words are read before those below them are written. */
        void becomeShiftedRight(Whole a, int count) {
            int whole = count >>> 5;
            int odd = count & 31;
            int places = Math.max(0, a.length - whole);
            for (int i = 0; i < places; i++) {
                long pair = ((long) a.words[i + whole + 1] << 32) | (a.words[i + whole] & LOW_WORD);
                words[i] = (int) (pair >>> odd);
            }
            settle(places);
        }

        void keepLowest(int count) {
            if (count < size()) {
                int whole = count >>> 5;
                words[whole] &= (1 << (count & 31)) - 1;
                settle(whole + 1);
            }
        }

        int order(Whole other) {
            if (length != other.length) {
                return length < other.length ? -1 : 1;
            }
            for (int i = length - 1; i >= 0; i--) {
                if (words[i] != other.words[i]) {
                    return (words[i] & LOW_WORD) < (other.words[i] & LOW_WORD) ? -1 : 1;
                }
            }
            return 0;
        }

        int size() {
            return length == 0 ? 0 : 32 * length - Integer.numberOfLeadingZeros(words[length - 1]);
        }

        int countOnes() {
            int count = 0;
            for (int i = 0; i < length; i++) {
                count += Integer.bitCount(words[i]);
            }
            return count;
        }

        int lowestOne() {
            for (int i = 0; i < length; i++) {
                if (words[i] != 0) {
                    return 32 * i + Integer.numberOfTrailingZeros(words[i]);
                }
            }
            return -1;
        }

        /** divisor is at least 1. */
        int remainder(int divisor) {
            long over = 0;
            for (int i = length - 1; i >= 0; i--) {
                over = ((over << 32) | (words[i] & LOW_WORD)) % divisor;
            }
            return (int) over;
        }
    }

    /** What products, quotients and roots have in common: work on stretches of rows of words. */
    private static final class Rows {
        /** Adds factor times the lowest count words of row to target from word at on; answers what is carried out. */
        static long addMultiple(int[] target, int at, int[] row, int count, long factor) {
            long carry = 0;
            for (int i = 0; i < count; i++) {
                carry += factor * (row[i] & LOW_WORD) + (target[at + i] & LOW_WORD);
                target[at + i] = (int) carry;
                carry >>>= 32;
            }
            return carry;
        }

        /** Takes factor times count words of row, from word from on, from target; answers what is borrowed. */
        static long takeMultiple(int[] target, int at, int[] row, int from, int count, long factor) {
            long borrow = 0;
            for (int i = 0; i < count; i++) {
                borrow += factor * (row[from + i] & LOW_WORD);
                long word = (target[at + i] & LOW_WORD) - (borrow & LOW_WORD);
                target[at + i] = (int) word;
                borrow = (borrow >>> 32) + (word >>> 63);
            }
            return borrow;
        }

        /** Adds count words of row, from word from on, and more to target; answers what is carried out. */
        static long addStretch(int[] target, int at, int[] row, int from, int count, long more) {
            long carry = more;
            for (int i = 0; i < count; i++) {
                carry += (target[at + i] & LOW_WORD) + (row[from + i] & LOW_WORD);
                target[at + i] = (int) carry;
                carry >>>= 32;
            }
            return carry;
        }

        /**
         * The word of a quotient as the three highest words of what is divided and the two highest of the
         * divisor, whose highest bit is 1, tell it: never too small, and at most by 1 too great (Knuth, The
         * Art of Computer Programming, volume 2, 4.3.1, algorithm D, step D3).
         */
        static long guess(int high, int middle, int low, int top, int second) {
            long by = top & LOW_WORD;
            // Its highest bit is 1, but no divisor goes without a look.
            if (by == 0) {
                return LOW_WORD;
            }
            long pair = ((long) high << 32) | (middle & LOW_WORD);
            // Half of the pair is divided, as the pair itself may be below 0 as a long.
            long word = ((pair >>> 1) / by) << 1;
            word += pair - word * by >= by ? 1 : 0;
            word = Math.min(word, LOW_WORD);
            long over = pair - word * by;
            for (int i = 0; i < 2 && over <= LOW_WORD; i++) {
                if (!isAbove(word * (second & LOW_WORD), (over << 32) | (low & LOW_WORD))) {
                    break;
                }
                word--;
                over += by;
            }
            return word;
        }

        /** Whether a is above b, both without a sign. */
        static boolean isAbove(long a, long b) {
            return (a ^ HIGHEST_BIT) > (b ^ HIGHEST_BIT);
        }

        /** The lower word of half of what the two words are. */
        static int halved(int high, int low) {
            return (high << 31) | (low >>> 1);
        }
    }

    /** Long division, word by word. */
    private static final class Division {
        /** b is not 0; quotient and left become the outcome, and neither they nor divisor are a or b. */
        static void find(Whole a, Whole b, Whole quotient, Whole left, Whole divisor) {
            int count = b.length;
            int places = Math.max(0, a.length - count + 1);
            int free = 32 * count - b.size();
            left.becomeShiftedLeft(a, free);
            divisor.becomeShiftedLeft(b, free);
            quotient.clear();
            for (int i = places - 1; i >= 0; i--) {
                quotient.words[i] = nextWord(left.words, divisor.words, i, count);
            }
            quotient.settle(places);
            left.settle(count);
            left.becomeShiftedRight(left, free);
        }

        /** Takes the divisor from what is left, from word at on, as often as it goes, and answers how often. */
        private static int nextWord(int[] left, int[] divisor, int at, int count) {
            int end = at + count;
            int low = count > 1 ? left[end - 2] : 0;
            int second = count > 1 ? divisor[count - 2] : 0;
            long word = Rows.guess(left[end], left[end - 1], low, divisor[count - 1], second);
            long top = (left[end] & LOW_WORD) - Rows.takeMultiple(left, at, divisor, 0, count, word);
            if (top < 0) {
                word--;
                top += Rows.addStretch(left, at, divisor, 0, count, 0);
            }
            left[end] = (int) top;
            return (int) word;
        }
    }

    /**
     * The square root, word by word as on paper: with s found so far and a next word w, the square grows by
     * w * (2 * s * 2^32 + w). The row doubled holds 2 * s, each word where it stands in the whole root.
     */
    private static final class SquareRoot {
        /** root and left become the outcome; neither they nor doubled are a. */
        static void find(Whole a, Whole root, Whole left, Whole doubled) {
            int count = (a.length + 1) / 2;
            root.clear();
            left.clear();
            doubled.clear();
            if (count == 0) {
                return;
            }
            // By an even shift the first word of the root gets its highest bit, which makes the guesses good.
            int half = (64 * count - a.size()) / 2;
            left.becomeShiftedLeft(a, 2 * half);
            firstWord(left.words, doubled.words, count);
            for (int i = count - 2; i >= 0; i--) {
                nextWord(left.words, doubled.words, i, count);
            }
            shiftBack(root, left, doubled, count, half);
        }

        private static void firstWord(int[] left, int[] doubled, int count) {
            int end = 2 * count - 1;
            long pair = ((long) left[end] << 32) | (left[end - 1] & LOW_WORD);
            long word = rootOfPair(pair);
            long over = pair - word * word;
            left[end - 1] = (int) over;
            left[end] = (int) (over >>> 32);
            putWord(doubled, count - 1, word);
        }

        private static long rootOfPair(long pair) {
            long word = 0;
            for (int i = 31; i >= 0; i--) {
                long more = word | (1L << i);
                if (!Rows.isAbove(more * more, pair)) {
                    word = more;
                }
            }
            return word;
        }

        /** Finds word at of the root; what is left then begins at word 2 * at. */
        private static void nextWord(int[] left, int[] doubled, int at, int count) {
            int end = at + count + 1;
            int many = count - at + 1;
            long word = guessWord(left, doubled, end, count);
            doubled[at] = (int) word;
            long top = (left[end] & LOW_WORD) - Rows.takeMultiple(left, 2 * at, doubled, at, many, word);
            doubled[at] = 0;
            // Too great by 1 at most for w * 2 * s, the guess is by 1 more at most for the square of w beside it.
            for (int i = 0; i < 3 && top < 0; i++) {
                word--;
                top += Rows.addStretch(left, 2 * at, doubled, at, many, 2 * word + 1);
            }
            left[end] = (int) top;
            putWord(doubled, at, word);
        }

        /** Half of what is left, divided by s: the halves keep the divisor's highest bit in its highest word. */
        private static long guessWord(int[] left, int[] doubled, int end, int count) {
            int high = Rows.halved(left[end], left[end - 1]);
            int middle = Rows.halved(left[end - 1], left[end - 2]);
            int low = Rows.halved(left[end - 2], left[end - 3]);
            int top = Rows.halved(doubled[count], doubled[count - 1]);
            int second = Rows.halved(doubled[count - 1], doubled[count - 2]);
            return Rows.guess(high, middle, low, top, second);
        }

        private static void putWord(int[] doubled, int at, long word) {
            doubled[at] = (int) (word << 1);
            doubled[at + 1] |= (int) (word >>> 31);
        }

        /**
         * The root found is s * 2^half + t, t its lowest bits. Then what is left and t times the doubled root
         * are together (a - s * s) * 2^(2 * half) + t * t, of which t * t is lost in the shift.
         */
        private static void shiftBack(Whole root, Whole left, Whole doubled, int count, int half) {
            int t = Rows.halved(doubled.words[1], doubled.words[0]) & ((1 << half) - 1);
            Rows.addMultiple(left.words, 0, doubled.words, count + 1, t);
            left.settle(count + 1);
            left.becomeShiftedRight(left, 2 * half);
            doubled.settle(count + 1);
            root.becomeShiftedRight(doubled, half + 1);
        }
    }
}
