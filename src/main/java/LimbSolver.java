/**
 * Linear equations in fractions, eliminated exactly and told limb by limb.
 *
 * The elimination is carried out on whole numbers: each row is multiplied by the least common
 * multiple of its denominators, and the columns are cleared without fractions (after Bareiss), so
 * that every entry is a minor of the scaled square and no number outgrows the rooms below. The
 * fractions that the document speaks of are ratios of these minors, brought to lowest terms.
 *
 * All rooms are made by the constructor and used again: no other call makes an object.
 */
public final class LimbSolver {
    public static final int NONE = -1;

    private static final int MOST_ROWS = 6;
    private static final int MOST_COLUMNS = MOST_ROWS + 1;
    private static final int MOST_CAP = 40000;
    private static final int MOST_PRIME = 46337;
    private static final int MOST_WHICH = 2;

    private static final int LIMB_BITS = 16;
    private static final int LIMB_MASK = 0xFFFF;
    private static final int WORD_BITS = 31;
    private static final int WORD_MASK = 0x7FFFFFFF;

    // A told number is at most 2^31, so an entry of a scaled row is at most 2^(31 * 7) = 2^217, and
    // a minor of six rows is below 720 * 2^(6 * 217) < 2^1312: 43 words.
    private static final int ENTRY_WORDS = 46;
    // A cell of a row that had its pivot is a ratio of products of a minor of five rows and one of
    // six, below 2^(1092 + 1312): 78 words.
    private static final int CELL_WORDS = 80;
    // A product of two entries, and one word more for the shift of a division.
    private static final int WIDE_WORDS = 96;

    // Far above the turns that numbers of these rooms need.
    private static final int MOST_TURNS = 1000000;

    private final Equations equations;
    private final Elimination work;
    private final Residues residues;
    private final Fraction shown;
    private boolean worked;
    private boolean eliminated;

    public LimbSolver() {
        equations = new Equations();
        work = new Elimination();
        residues = new Residues();
        shown = new Fraction(2, 2);
        worked = false;
        eliminated = false;
    }

    public void size(int n) throws IllegalArgumentException {
        if (n < 1 || n > MOST_ROWS) {
            throw new IllegalArgumentException("the size is not 1 .. 6");
        }
        equations.restart(n);
        forget();
    }

    public int set(int row, int column, int num, int den) throws IndexOutOfBoundsException, IllegalArgumentException {
        if (!equations.hasRow(row) || !equations.hasRow(column)) {
            throw new IndexOutOfBoundsException("there is no such cell");
        }
        if (den == 0) {
            throw new IllegalArgumentException("the denominator is 0");
        }
        equations.put(row, column, num, den);
        forget();
        return equations.limbCount();
    }

    public int right(int row, int num, int den) throws IndexOutOfBoundsException, IllegalArgumentException {
        if (!equations.hasRow(row)) {
            throw new IndexOutOfBoundsException("there is no such row");
        }
        if (den == 0) {
            throw new IllegalArgumentException("the denominator is 0");
        }
        equations.put(row, equations.n, num, den);
        forget();
        return equations.limbCount();
    }

    public int eliminate(int cap) throws IllegalArgumentException {
        if (cap < 0 || cap > MOST_CAP) {
            throw new IllegalArgumentException("the cap is not 0 .. 40000");
        }
        eliminated = false;
        if (equations.limbCount() > cap) {
            return NONE;
        }
        // The states do not depend on the cap, so they are worked out once for what was told.
        if (!worked) {
            work.run(equations);
            worked = true;
        }
        if (work.mostLimbs > cap) {
            return NONE;
        }
        eliminated = true;
        return work.pivots;
    }

    public int rank() {
        return eliminated ? work.pivots : NONE;
    }

    public boolean isSolvable() throws IllegalStateException {
        if (!eliminated) {
            throw new IllegalStateException("it is not eliminated");
        }
        return work.solvable;
    }

    public int most() throws IllegalStateException {
        if (!eliminated) {
            throw new IllegalStateException("it is not eliminated");
        }
        return work.mostLimbs;
    }

    public int pivot(int column) throws IndexOutOfBoundsException, IllegalStateException {
        if (!equations.hasRow(column)) {
            throw new IndexOutOfBoundsException("there is no such column");
        }
        if (!eliminated) {
            throw new IllegalStateException("it is not eliminated");
        }
        return work.pivotRows[column];
    }

    public int solution(int column, int which, int k) throws IndexOutOfBoundsException, IllegalStateException {
        if (!equations.hasRow(column) || !isPart(which)) {
            throw new IndexOutOfBoundsException("there is no such column or part");
        }
        if (!eliminated || !work.solvable) {
            throw new IllegalStateException("it is not eliminated or not solvable");
        }
        return work.unknowns[column].tell(which, k);
    }

    public int determinant(int which, int k) throws IndexOutOfBoundsException, IllegalStateException {
        if (!isPart(which)) {
            throw new IndexOutOfBoundsException("there is no such part");
        }
        if (!eliminated) {
            throw new IllegalStateException("it is not eliminated");
        }
        return work.volume.tell(which, k);
    }

    public int cell(int row, int column, int which, int k) throws IndexOutOfBoundsException, IllegalStateException {
        if (!equations.hasPlace(row, column) || !isPart(which)) {
            throw new IndexOutOfBoundsException("there is no such cell or part");
        }
        if (!eliminated) {
            throw new IllegalStateException("it is not eliminated");
        }
        return work.rows[row].cells[column].tell(which, k);
    }

    public int told(int row, int column, int which, int k) throws IndexOutOfBoundsException {
        if (!equations.hasPlace(row, column) || !isPart(which)) {
            throw new IndexOutOfBoundsException("there is no such cell or part");
        }
        equations.show(row, column, shown);
        return shown.tell(which, k);
    }

    public int modulo(int q) {
        return residues.residue(equations, q);
    }

    public int meter() {
        return equations.limbCount();
    }

    public boolean isRight(int row) throws IndexOutOfBoundsException, IllegalStateException {
        if (!equations.hasRow(row)) {
            throw new IndexOutOfBoundsException("there is no such row");
        }
        if (!eliminated || !work.solvable) {
            throw new IllegalStateException("it is not eliminated or not solvable");
        }
        return work.holds(equations, row);
    }

    private void forget() {
        worked = false;
        eliminated = false;
    }

    private static boolean isPart(int which) {
        return which >= 0 && which <= MOST_WHICH;
    }

    // Long.compare is only said to be below 0 or above 0; a SIGN is -1 or 1.
    private static int signOf(long value) {
        if (value == 0) {
            return 0;
        }
        return value < 0 ? -1 : 1;
    }

    /** How many of the 31 bits of a word stand unused above its highest one. */
    private static int spareBits(int word) {
        if (word <= 0) {
            return WORD_BITS;
        }
        int rest = word;
        int spare = 0;
        for (int step = LIMB_BITS; step > 0; step >>= 1) {
            if (rest >>> (WORD_BITS - step) == 0) {
                rest <<= step;
                spare += step;
            }
        }
        return spare;
    }

    /** A number from 0 on, to the base 2^31, the lowest word first, in a room that never grows. */
    private static final class Whole {
        private final int[] words;
        private int count;

        Whole(int room) {
            words = new int[room < 1 ? 1 : room];
            count = 0;
        }

        void clear() {
            count = 0;
        }

        void assign(long value) {
            count = 0;
            for (long rest = value; rest > 0 && count < words.length; rest >>= WORD_BITS) {
                words[count] = (int) (rest & WORD_MASK);
                count++;
            }
        }

        void copyFrom(Whole other) {
            if (other.count > words.length) {
                return;
            }
            System.arraycopy(other.words, 0, words, 0, other.count);
            count = other.count;
        }

        int wordAt(int index) {
            return index >= 0 && index < count ? words[index] : 0;
        }

        /** The number as it is below 2^62. */
        long asLong() {
            return ((long) wordAt(1) << WORD_BITS) | wordAt(0);
        }

        boolean isOne() {
            return count == 1 && words[0] == 1;
        }

        /** Takes so many words as filled, less the zeros above. */
        void trim(int filled) {
            int top = filled < words.length ? filled : words.length;
            while (top > 0 && words[top - 1] == 0) {
                top--;
            }
            count = top;
        }

        int limbCount() {
            if (count == 0) {
                return 0;
            }
            int bits = count * WORD_BITS - spareBits(words[count - 1]);
            return (bits + LIMB_BITS - 1) / LIMB_BITS;
        }

        int limb(int k) {
            if (k < 0 || k >= limbCount()) {
                return NONE;
            }
            int bit = k * LIMB_BITS;
            int at = bit / WORD_BITS;
            long pair = ((long) wordAt(at + 1) << WORD_BITS) | wordAt(at);
            return (int) (pair >>> (bit % WORD_BITS)) & LIMB_MASK;
        }

        /** Below 0, 0 or above 0 as this is less than, the same as or more than the other. */
        int against(Whole other) {
            if (count != other.count) {
                return count - other.count;
            }
            for (int i = count - 1; i >= 0; i--) {
                if (words[i] != other.words[i]) {
                    return words[i] < other.words[i] ? -1 : 1;
                }
            }
            return 0;
        }

        void add(Whole other) {
            int length = 1 + (count > other.count ? count : other.count);
            if (length > words.length) {
                return;
            }
            long carry = 0;
            for (int i = 0; i < length; i++) {
                carry += (long) wordAt(i) + other.wordAt(i);
                words[i] = (int) (carry & WORD_MASK);
                carry >>= WORD_BITS;
            }
            trim(length);
        }

        /** Takes away a number that is not greater. */
        void subtract(Whole other) {
            long carry = 0;
            for (int i = 0; i < count; i++) {
                carry += (long) words[i] - other.wordAt(i);
                words[i] = (int) (carry & WORD_MASK);
                carry >>= WORD_BITS;
            }
            trim(count);
        }

        /** Becomes the product of two numbers, neither of which is this one. */
        void multiply(Whole a, Whole b) {
            int length = a.count + b.count;
            if (length > words.length) {
                return;
            }
            for (int i = 0; i < length; i++) {
                words[i] = 0;
            }
            for (int i = 0; i < a.count; i++) {
                long factor = a.words[i];
                long carry = 0;
                for (int j = 0; j < b.count; j++) {
                    carry += factor * b.words[j] + words[i + j];
                    words[i + j] = (int) (carry & WORD_MASK);
                    carry >>= WORD_BITS;
                }
                words[i + b.count] = (int) carry;
            }
            trim(length);
        }
    }

    /** A whole number with its sign: an entry of a scaled row. */
    private static final class Entry {
        private final Whole amount;
        private int sign;

        Entry(int room) {
            amount = new Whole(room);
            sign = 0;
        }
    }

    private static final class Fraction {
        private final Whole num;
        private final Whole den;
        private int sign;

        Fraction(int numRoom, int denRoom) {
            num = new Whole(numRoom);
            den = new Whole(denRoom);
            clear();
        }

        void clear() {
            sign = 0;
            num.clear();
            den.assign(1);
        }

        void assign(long signedNum, long newDen) {
            sign = signOf(signedNum);
            num.assign(Math.abs(signedNum));
            den.assign(newDen);
        }

        int limbCount() {
            return num.limbCount() + den.limbCount();
        }

        int tell(int which, int k) {
            if (which == 0) {
                return sign;
            }
            Whole part = which == 1 ? num : den;
            return k == -1 ? part.limbCount() : part.limb(k);
        }
    }

    /** The rows as they were told; the right side stands in column n. */
    private static final class Equations {
        private final long[] nums;
        private final long[] dens;
        private int n;

        Equations() {
            nums = new long[MOST_ROWS * MOST_COLUMNS];
            dens = new long[MOST_ROWS * MOST_COLUMNS];
            restart(1);
        }

        void restart(int newSize) {
            n = newSize;
            for (int i = 0; i < nums.length && i < dens.length; i++) {
                nums[i] = 0;
                dens[i] = 1;
            }
        }

        boolean hasRow(int row) {
            return row >= 0 && row < n;
        }

        boolean hasPlace(int row, int column) {
            return hasRow(row) && column >= 0 && column <= n;
        }

        long numAt(int row, int column) {
            return hasPlace(row, column) ? nums[row * MOST_COLUMNS + column] : 0;
        }

        long denAt(int row, int column) {
            return hasPlace(row, column) ? dens[row * MOST_COLUMNS + column] : 1;
        }

        void put(int row, int column, long num, long den) {
            long divisor = commonDivisor(Math.abs(num), Math.abs(den));
            if (!hasPlace(row, column) || divisor == 0) {
                return;
            }
            int at = row * MOST_COLUMNS + column;
            nums[at] = (den < 0 ? -num : num) / divisor;
            dens[at] = Math.abs(den) / divisor;
        }

        void show(int row, int column, Fraction into) {
            into.assign(numAt(row, column), denAt(row, column));
        }

        int limbCount() {
            int sum = 0;
            for (int row = 0; row < n; row++) {
                for (int column = 0; column <= n; column++) {
                    sum += limbsOf(Math.abs(numAt(row, column))) + limbsOf(denAt(row, column));
                }
            }
            return sum;
        }

        private static int limbsOf(long value) {
            int limbs = 0;
            for (long rest = value; rest > 0; rest >>= LIMB_BITS) {
                limbs++;
            }
            return limbs;
        }
    }

    /** The greatest common divisor of two numbers from 0 on. */
    private static long commonDivisor(long a, long b) {
        long greater = a;
        long lesser = b;
        for (int turn = 0; turn < MOST_TURNS && lesser != 0; turn++) {
            long rest = greater % lesser;
            greater = lesser;
            lesser = rest;
        }
        return greater;
    }

    /** Long division (Knuth's algorithm D), with room for the shifted numbers. */
    private static final class Division {
        private final int[] dividend;
        private final int[] divisor;

        Division() {
            dividend = new int[WIDE_WORDS + 1];
            divisor = new int[WIDE_WORDS + 1];
        }

        /** The quotient and the rest may be the very numbers that are divided. */
        void divide(Whole a, Whole b, Whole quotient, Whole rest) {
            int length = b.count;
            int digits = a.count - length + 1;
            if (length == 0 || a.count >= dividend.length || length > rest.words.length
                    || digits > quotient.words.length) {
                return;
            }
            if (digits <= 0) {
                rest.copyFrom(a);
                quotient.clear();
                return;
            }
            int shift = spareBits(b.words[length - 1]);
            shiftUp(a, shift, dividend);
            shiftUp(b, shift, divisor);
            for (int at = digits - 1; at >= 0; at--) {
                int digit = guessDigit(at, length);
                if (takeTimes(digit, at, length)) {
                    digit--;
                    giveBack(at, length);
                }
                quotient.words[at] = digit;
            }
            quotient.trim(digits);
            shiftDown(length, shift, rest.words);
            rest.trim(length);
        }

        private static void shiftUp(Whole from, int shift, int[] into) {
            if (from.count >= into.length) {
                return;
            }
            long carry = 0;
            for (int i = 0; i < from.count; i++) {
                carry |= (long) from.words[i] << shift;
                into[i] = (int) (carry & WORD_MASK);
                carry >>= WORD_BITS;
            }
            into[from.count] = (int) carry;
        }

        private void shiftDown(int length, int shift, int[] into) {
            for (int i = 0; i < length && i < into.length; i++) {
                long above = i + 1 < length ? dividend[i + 1] : 0;
                into[i] = (int) (((above << WORD_BITS) | dividend[i]) >>> shift) & WORD_MASK;
            }
        }

        /** The digit of the quotient at a place, or 1 more. */
        private int guessDigit(int at, int length) {
            int top = at + length;
            if (at < 0 || length < 1 || top >= dividend.length || divisor[length - 1] == 0) {
                return 0;
            }
            long high = divisor[length - 1];
            long next = length > 1 ? divisor[length - 2] : 0;
            long third = length > 1 ? dividend[top - 2] : 0;
            long pair = ((long) dividend[top] << WORD_BITS) | dividend[top - 1];
            long digit = pair / high;
            long left = pair - digit * high;
            // The highest bit of the divisor is set, so twice brings the rest above a word.
            for (int i = 0; i < 2 && left <= WORD_MASK; i++) {
                if (digit <= WORD_MASK && digit * next <= ((left << WORD_BITS) | third)) {
                    break;
                }
                digit--;
                left += high;
            }
            return (int) digit;
        }

        /** Takes digit times the divisor away; answers whether that was too much. */
        private boolean takeTimes(int digit, int at, int length) {
            long factor = digit;
            long carry = 0;
            for (int i = 0; i < length; i++) {
                carry += dividend[at + i] - factor * divisor[i];
                dividend[at + i] = (int) (carry & WORD_MASK);
                carry >>= WORD_BITS;
            }
            carry += dividend[at + length];
            dividend[at + length] = (int) (carry & WORD_MASK);
            return carry < 0;
        }

        private void giveBack(int at, int length) {
            long carry = 0;
            for (int i = 0; i < length; i++) {
                carry += (long) dividend[at + i] + divisor[i];
                dividend[at + i] = (int) (carry & WORD_MASK);
                carry >>= WORD_BITS;
            }
            dividend[at + length] = (int) ((carry + dividend[at + length]) & WORD_MASK);
        }
    }

    /**
     * Brings to lowest terms, by the greatest common divisor after Lehmer: several steps of Euclid
     * are found from the highest 62 bits alone and then carried out at once, as four factors below
     * 2^31.
     */
    private static final class Euclid {
        private final Division division;
        private final Whole first;
        private final Whole second;
        private final Whole third;
        private final Whole unused;
        private long uu;
        private long uv;
        private long vu;
        private long vv;

        Euclid(Division division) {
            this.division = division;
            first = new Whole(WIDE_WORDS);
            second = new Whole(WIDE_WORDS);
            third = new Whole(WIDE_WORDS);
            unused = new Whole(WIDE_WORDS);
            uu = 1;
            uv = 0;
            vu = 0;
            vv = 1;
        }

        /** Divides two numbers by what they have in common; lessA may be a, lessB may be b. */
        void cancel(Whole a, Whole b, Whole lessA, Whole lessB) {
            boolean ordered = a.against(b) >= 0;
            Whole greater = first;
            Whole lesser = second;
            Whole spare = third;
            greater.copyFrom(ordered ? a : b);
            lesser.copyFrom(ordered ? b : a);
            for (int turn = 0; turn < MOST_TURNS && greater.count > 2 && lesser.count > 0; turn++) {
                int length = greater.count;
                int shift = spareBits(greater.words[length - 1]);
                if (findSteps(highBits(greater, length, shift), highBits(lesser, length, shift))) {
                    carryOut(greater, lesser);
                } else {
                    division.divide(greater, lesser, unused, spare);
                    Whole free = greater;
                    greater = lesser;
                    lesser = spare;
                    spare = free;
                }
            }
            if (greater.count <= 2) {
                greater.assign(commonDivisor(greater.asLong(), lesser.asLong()));
            }
            if (greater.isOne()) {
                lessA.copyFrom(a);
                lessB.copyFrom(b);
            } else {
                division.divide(a, greater, lessA, unused);
                division.divide(b, greater, lessB, unused);
            }
        }

        /** The highest 62 bits of the greater number, and what of the lesser one stands there. */
        private static long highBits(Whole number, int length, int shift) {
            long pair = ((long) number.wordAt(length - 1) << WORD_BITS) | number.wordAt(length - 2);
            return (pair << shift) | (number.wordAt(length - 3) >>> (WORD_BITS - shift));
        }

        /** Whether the highest bits decide at least one step. */
        private boolean findSteps(long greater, long lesser) {
            long u = greater;
            long v = lesser;
            uu = 1;
            uv = 0;
            vu = 0;
            vv = 1;
            // A step is sure only if both ends of what the ratio may be have the same quotient.
            for (int step = 0; step < MOST_TURNS && v + vu > 0 && v + vv > 0; step++) {
                long quotient = (u + uu) / (v + vu);
                if (quotient != (u + uv) / (v + vv) || quotient > WORD_MASK) {
                    break;
                }
                long nextU = uu - quotient * vu;
                long nextV = uv - quotient * vv;
                if (Math.abs(nextU) > WORD_MASK || Math.abs(nextV) > WORD_MASK) {
                    break;
                }
                uu = vu;
                uv = vv;
                vu = nextU;
                vv = nextV;
                long rest = u - quotient * v;
                u = v;
                v = rest;
            }
            return uv != 0;
        }

        private void carryOut(Whole greater, Whole lesser) {
            int length = greater.count;
            if (length > greater.words.length || length > lesser.words.length) {
                return;
            }
            long uCarry = 0;
            long vCarry = 0;
            for (int i = 0; i < length; i++) {
                long u = greater.words[i];
                long v = lesser.wordAt(i);
                uCarry += uu * u + uv * v;
                vCarry += vu * u + vv * v;
                greater.words[i] = (int) (uCarry & WORD_MASK);
                lesser.words[i] = (int) (vCarry & WORD_MASK);
                uCarry >>= WORD_BITS;
                vCarry >>= WORD_BITS;
            }
            greater.trim(length);
            lesser.trim(length);
        }
    }

    /** What the elimination does with whole numbers and fractions, with rooms for it. */
    private static final class Arithmetic {
        private final Division division;
        private final Euclid euclid;
        private final Whole rest;
        private final Whole part;
        private final Whole product;
        private final Whole firstNum;
        private final Whole firstDen;
        private final Whole secondNum;
        private final Whole secondDen;

        Arithmetic() {
            division = new Division();
            euclid = new Euclid(division);
            rest = new Whole(WIDE_WORDS);
            part = new Whole(WIDE_WORDS);
            product = new Whole(WIDE_WORDS);
            firstNum = new Whole(WIDE_WORDS);
            firstDen = new Whole(WIDE_WORDS);
            secondNum = new Whole(WIDE_WORDS);
            secondDen = new Whole(WIDE_WORDS);
        }

        /** The quotient of a division that leaves no rest. */
        void divideExactly(Whole a, Whole b, Whole quotient) {
            division.divide(a, b, quotient, rest);
        }

        /** The fraction of a number and a denominator, which has a sign of its own. */
        void reduce(Entry number, Whole den, int denSign, Fraction into) {
            euclid.cancel(number.amount, den, into.num, into.den);
            into.sign = number.sign * denSign;
        }

        /** The product in lowest terms of two fractions that are in lowest terms. */
        void multiplyFractions(Fraction a, Fraction b, Fraction into) {
            euclid.cancel(a.num, b.den, firstNum, secondDen);
            euclid.cancel(b.num, a.den, secondNum, firstDen);
            into.num.multiply(firstNum, secondNum);
            into.den.multiply(firstDen, secondDen);
            into.sign = a.sign * b.sign;
        }

        /** Takes right from left, which is changed and holds the amount; answers its sign. */
        int takeAway(int leftSign, Whole left, int rightSign, Whole right) {
            if (rightSign == 0) {
                return leftSign;
            }
            if (leftSign == 0) {
                left.copyFrom(right);
                return -rightSign;
            }
            if (leftSign != rightSign) {
                left.add(right);
                return leftSign;
            }
            if (left.against(right) >= 0) {
                left.subtract(right);
                return left.count == 0 ? 0 : leftSign;
            }
            right.subtract(left);
            left.copyFrom(right);
            return -leftSign;
        }

        /** A told row times the least common multiple of its denominators, which is the scale. */
        void scaleRow(Equations equations, int row, Entry[] entries, Whole scale) {
            scale.assign(1);
            for (int column = 0; column <= equations.n; column++) {
                part.assign(equations.denAt(row, column));
                euclid.cancel(part, scale, part, product);
                product.multiply(part, scale);
                scale.copyFrom(product);
            }
            for (int column = 0; column <= equations.n && column < entries.length; column++) {
                long num = equations.numAt(row, column);
                Entry entry = entries[column];
                entry.sign = signOf(num);
                part.assign(equations.denAt(row, column));
                division.divide(scale, part, product, rest);
                part.assign(Math.abs(num));
                entry.amount.multiply(product, part);
            }
        }
    }

    /** A row of the copy: whole numbers to work on, and the fractions that they stand for. */
    private static final class Row {
        private final Entry[] entries;
        private final Fraction[] cells;
        private final Whole scale;
        private int pivotColumn;

        Row() {
            entries = new Entry[MOST_COLUMNS];
            cells = new Fraction[MOST_COLUMNS];
            for (int i = 0; i < MOST_COLUMNS; i++) {
                entries[i] = new Entry(ENTRY_WORDS);
                cells[i] = new Fraction(CELL_WORDS, CELL_WORDS);
            }
            scale = new Whole(ENTRY_WORDS);
            pivotColumn = NONE;
        }
    }

    /**
     * The elimination on a copy. With the pivots so far, lastPivot is the minor of their rows and
     * columns; an entry of a row without a pivot is by lastPivot and the row's scale what the cell
     * is, an entry of a row with a pivot is by lastPivot what the cell is by the row's pivot.
     * Entries of columns that are behind are not kept up: no later column looks at them.
     */
    private static final class Elimination {
        private final Arithmetic arithmetic;
        private final Row[] rows;
        private final Fraction[] unknowns;
        private final int[] pivotRows;
        private final Fraction volume;
        private final Fraction ratio;
        private final Whole plus;
        private final Whole minus;
        private final Whole bottom;
        private final Entry one;
        private final Entry[] asTold;
        private Entry lastPivot;
        private int n;
        private int turn;
        private int pivots;
        private int mostLimbs;
        private boolean solvable;

        Elimination() {
            arithmetic = new Arithmetic();
            rows = new Row[MOST_ROWS];
            unknowns = new Fraction[MOST_ROWS];
            pivotRows = new int[MOST_ROWS];
            asTold = new Entry[MOST_COLUMNS];
            for (int i = 0; i < MOST_ROWS; i++) {
                rows[i] = new Row();
                unknowns[i] = new Fraction(ENTRY_WORDS, ENTRY_WORDS);
                pivotRows[i] = NONE;
            }
            for (int i = 0; i < MOST_COLUMNS; i++) {
                asTold[i] = new Entry(ENTRY_WORDS);
            }
            volume = new Fraction(ENTRY_WORDS, ENTRY_WORDS);
            ratio = new Fraction(ENTRY_WORDS, ENTRY_WORDS);
            plus = new Whole(WIDE_WORDS);
            minus = new Whole(WIDE_WORDS);
            bottom = new Whole(WIDE_WORDS);
            one = new Entry(1);
            one.amount.assign(1);
            one.sign = 1;
            lastPivot = one;
            n = 1;
            turn = 1;
            pivots = 0;
            mostLimbs = 0;
            solvable = false;
        }

        void run(Equations equations) {
            begin(equations);
            for (int column = 0; column < n; column++) {
                int from = firstRowWith(column);
                pivotRows[column] = from == NONE ? NONE : pivots;
                if (from == NONE) {
                    continue;
                }
                changePlaces(pivots, from);
                Row top = rows[pivots];
                for (int i = 0; i < n; i++) {
                    if (i != pivots) {
                        combineRow(rows[i], top, column);
                        refreshCells(rows[i], top, column);
                    }
                }
                top.pivotColumn = column;
                lastPivot = top.entries[column];
                pivots++;
                mostLimbs = Math.max(mostLimbs, stateLimbs());
            }
            solvable = hasNoRightSidesLeft();
            findUnknowns();
            findVolume();
        }

        private void begin(Equations equations) {
            n = Math.min(equations.n, MOST_ROWS);
            turn = 1;
            pivots = 0;
            lastPivot = one;
            for (int i = 0; i < n; i++) {
                Row row = rows[i];
                row.pivotColumn = NONE;
                arithmetic.scaleRow(equations, i, row.entries, row.scale);
                for (int column = 0; column <= n; column++) {
                    equations.show(i, column, row.cells[column]);
                }
            }
            mostLimbs = stateLimbs();
        }

        private int firstRowWith(int column) {
            for (int i = pivots; i < n; i++) {
                if (rows[i].entries[column].sign != 0) {
                    return i;
                }
            }
            return NONE;
        }

        private void changePlaces(int a, int b) {
            if (a == b) {
                return;
            }
            Row row = rows[a];
            rows[a] = rows[b];
            rows[b] = row;
            turn = -turn;
        }

        /** The entries behind the column, for the new pivot; the division leaves no rest. */
        private void combineRow(Row row, Row top, int column) {
            Entry pivot = top.entries[column];
            Entry here = row.entries[column];
            for (int j = column + 1; j <= n; j++) {
                Entry entry = row.entries[j];
                Entry above = top.entries[j];
                plus.multiply(pivot.amount, entry.amount);
                minus.multiply(here.amount, above.amount);
                int sign = arithmetic.takeAway(pivot.sign * entry.sign, plus, here.sign * above.sign, minus);
                arithmetic.divideExactly(plus, lastPivot.amount, entry.amount);
                entry.sign = sign * lastPivot.sign;
            }
        }

        /** The cells that the column changes, in lowest terms; the cell of the column is 0 then. */
        private void refreshCells(Row row, Row top, int column) {
            Entry pivot = top.entries[column];
            if (row.entries[column].sign == 0) {
                return;
            }
            bottom.multiply(pivot.amount, row.scale);
            for (int j = column + 1; j <= n; j++) {
                if (top.entries[j].sign == 0) {
                    continue;
                }
                if (row.pivotColumn < 0) {
                    arithmetic.reduce(row.entries[j], bottom, pivot.sign, row.cells[j]);
                } else {
                    arithmetic.reduce(row.entries[j], pivot.amount, pivot.sign, ratio);
                    arithmetic.multiplyFractions(ratio, row.cells[row.pivotColumn], row.cells[j]);
                }
            }
            row.cells[column].clear();
        }

        private int stateLimbs() {
            int sum = 0;
            for (int i = 0; i < n; i++) {
                for (int j = 0; j <= n; j++) {
                    sum += rows[i].cells[j].limbCount();
                }
            }
            return sum;
        }

        private boolean hasNoRightSidesLeft() {
            for (int i = pivots; i < n; i++) {
                if (rows[i].entries[n].sign != 0) {
                    return false;
                }
            }
            return true;
        }

        private void findUnknowns() {
            for (int column = 0; column < n; column++) {
                Fraction unknown = unknowns[column];
                int from = pivotRows[column];
                if (solvable && from >= 0) {
                    arithmetic.reduce(rows[from].entries[n], lastPivot.amount, lastPivot.sign, unknown);
                } else {
                    unknown.clear();
                }
            }
        }

        private void findVolume() {
            if (pivots < n) {
                volume.clear();
                return;
            }
            bottom.assign(1);
            for (int i = 0; i < n; i++) {
                plus.multiply(bottom, rows[i].scale);
                bottom.copyFrom(plus);
            }
            arithmetic.reduce(lastPivot, bottom, turn, volume);
        }

        /** Whether a told row, scaled, times the unknowns, times lastPivot, is its right side. */
        boolean holds(Equations equations, int row) {
            arithmetic.scaleRow(equations, row, asTold, bottom);
            plus.clear();
            minus.clear();
            for (int column = 0; column < n; column++) {
                if (pivotRows[column] >= 0) {
                    addProduct(asTold[column], rows[pivotRows[column]].entries[n], 1);
                }
            }
            addProduct(asTold[n], lastPivot, -1);
            return plus.against(minus) == 0;
        }

        /** Gathers what is above 0 in plus and what is below 0 in minus: they differ by the sum. */
        private void addProduct(Entry a, Entry b, int sign) {
            bottom.multiply(a.amount, b.amount);
            if (sign * a.sign * b.sign > 0) {
                plus.add(bottom);
            } else {
                minus.add(bottom);
            }
        }
    }

    /** The determinant modulo a prime, worked out from what was told. */
    private static final class Residues {
        private final int[] square;

        Residues() {
            square = new int[MOST_ROWS * MOST_ROWS];
        }

        int residue(Equations equations, int q) {
            if (!isPrime(q) || !fill(equations, q)) {
                return NONE;
            }
            int n = Math.min(equations.n, MOST_ROWS);
            int product = 1;
            for (int column = 0; column < n; column++) {
                int from = firstRowWith(column, n);
                if (from == NONE) {
                    return 0;
                }
                if (from != column) {
                    changePlaces(from, column);
                    product = q - product;
                }
                int pivot = square[column * MOST_ROWS + column];
                product = product * pivot % q;
                clearBelow(column, n, inverse(pivot, q), q);
            }
            return product;
        }

        // Both factors of every product are below 46337, so that it stays within an int.
        private boolean fill(Equations equations, int q) {
            for (int row = 0; row < equations.n && row < MOST_ROWS; row++) {
                for (int column = 0; column < equations.n && column < MOST_ROWS; column++) {
                    int den = (int) (equations.denAt(row, column) % q);
                    if (den == 0) {
                        return false;
                    }
                    int num = (int) Math.floorMod(equations.numAt(row, column), (long) q);
                    square[row * MOST_ROWS + column] = num * inverse(den, q) % q;
                }
            }
            return true;
        }

        private int firstRowWith(int column, int n) {
            for (int row = column; row < n; row++) {
                if (square[row * MOST_ROWS + column] != 0) {
                    return row;
                }
            }
            return NONE;
        }

        private void changePlaces(int a, int b) {
            for (int column = 0; column < MOST_ROWS; column++) {
                int value = square[a * MOST_ROWS + column];
                square[a * MOST_ROWS + column] = square[b * MOST_ROWS + column];
                square[b * MOST_ROWS + column] = value;
            }
        }

        private void clearBelow(int column, int n, int inverse, int q) {
            for (int row = column + 1; row < n; row++) {
                int factor = square[row * MOST_ROWS + column] * inverse % q;
                for (int j = column; j < n; j++) {
                    int taken = factor * square[column * MOST_ROWS + j] % q;
                    int value = square[row * MOST_ROWS + j] - taken;
                    square[row * MOST_ROWS + j] = value < 0 ? value + q : value;
                }
            }
        }

        /** By Fermat: what is no multiple of a prime q has its power q - 2 as inverse. */
        private static int inverse(int value, int q) {
            int result = 1;
            int power = value;
            for (int rest = q - 2; rest > 0; rest >>= 1) {
                if ((rest & 1) == 1) {
                    result = result * power % q;
                }
                power = power * power % q;
            }
            return result;
        }

        private static boolean isPrime(int q) {
            if (q < 2 || q > MOST_PRIME) {
                return false;
            }
            for (int divisor = 2; divisor * divisor <= q; divisor++) {
                if (q % divisor == 0) {
                    return false;
                }
            }
            return true;
        }
    }
}
