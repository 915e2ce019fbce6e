import java.math.BigInteger;

/** The document word by word, with BigInteger: slow and plain, to compare with. */
final class Reference {
    private static final int NONE = -1;

    private static final class Q {
        static final Q ZERO = new Q(BigInteger.ZERO, BigInteger.ONE);
        static final Q ONE = new Q(BigInteger.ONE, BigInteger.ONE);
        final BigInteger num;
        final BigInteger den;

        Q(BigInteger num, BigInteger den) {
            BigInteger g = num.gcd(den);
            BigInteger s = den.signum() < 0 ? g.negate() : g;
            this.num = num.divide(s);
            this.den = den.divide(s);
        }

        static Q of(int num, int den) {
            return new Q(BigInteger.valueOf(num), BigInteger.valueOf(den));
        }

        Q times(Q o) {
            return new Q(num.multiply(o.num), den.multiply(o.den));
        }

        Q by(Q o) {
            return new Q(num.multiply(o.den), den.multiply(o.num));
        }

        Q minus(Q o) {
            return new Q(num.multiply(o.den).subtract(o.num.multiply(den)), den.multiply(o.den));
        }

        Q negate() {
            return new Q(num.negate(), den);
        }

        boolean isZero() {
            return num.signum() == 0;
        }

        boolean same(Q o) {
            return num.equals(o.num) && den.equals(o.den);
        }

        static int limbs(BigInteger v) {
            return (v.bitLength() + 15) / 16;
        }

        int limbs() {
            return limbs(num.abs()) + limbs(den);
        }

        int tell(int which, int k) {
            if (which == 0) {
                return num.signum();
            }
            BigInteger part = which == 1 ? num.abs() : den;
            if (k == -1) {
                return limbs(part);
            }
            return k < 0 || k >= limbs(part) ? NONE : part.shiftRight(16 * k).intValue() & 0xFFFF;
        }
    }

    private int n;
    private Q[][] told;
    private Q[][] copy;
    private boolean eliminated;
    private int rank;
    private int most;
    private boolean solvable;
    private int[] pivotRow;
    private Q[] x;
    private Q det;

    Reference() {
        size(1);
    }

    void size(int newSize) {
        if (newSize < 1 || newSize > 6) {
            throw new IllegalArgumentException();
        }
        n = newSize;
        told = new Q[n][n + 1];
        for (Q[] row : told) {
            java.util.Arrays.fill(row, Q.ZERO);
        }
        eliminated = false;
    }

    private void index(boolean fine) {
        if (!fine) {
            throw new IndexOutOfBoundsException();
        }
    }

    private void state(boolean fine) {
        if (!fine) {
            throw new IllegalStateException();
        }
    }

    private boolean in(int i) {
        return i >= 0 && i < n;
    }

    private boolean part(int which) {
        return which >= 0 && which <= 2;
    }

    int set(int row, int column, int num, int den) {
        index(in(row) && in(column));
        return put(row, column, num, den);
    }

    int right(int row, int num, int den) {
        index(in(row));
        return put(row, n, num, den);
    }

    private int put(int row, int column, int num, int den) {
        if (den == 0) {
            throw new IllegalArgumentException();
        }
        told[row][column] = Q.of(num, den);
        eliminated = false;
        return meter();
    }

    private static int limbs(Q[][] state) {
        int sum = 0;
        for (Q[] row : state) {
            for (Q q : row) {
                sum += q.limbs();
            }
        }
        return sum;
    }

    int eliminate(int cap) {
        if (cap < 0 || cap > 40000) {
            throw new IllegalArgumentException();
        }
        copy = new Q[n][];
        for (int i = 0; i < n; i++) {
            copy[i] = told[i].clone();
        }
        rank = 0;
        most = limbs(copy);
        pivotRow = new int[n];
        det = Q.ONE;
        for (int c = 0; c < n; c++) {
            column(c);
            most = Math.max(most, limbs(copy));
        }
        det = rank == n ? det : Q.ZERO;
        solvable = true;
        for (int i = rank; i < n; i++) {
            solvable &= copy[i][n].isZero();
        }
        x = new Q[n];
        for (int c = 0; c < n; c++) {
            x[c] = pivotRow[c] == NONE ? Q.ZERO : copy[pivotRow[c]][n].by(copy[pivotRow[c]][c]);
        }
        eliminated = most <= cap;
        return eliminated ? rank : NONE;
    }

    private void column(int c) {
        int p = rank;
        while (p < n && copy[p][c].isZero()) {
            p++;
        }
        pivotRow[c] = p == n ? NONE : rank;
        if (p == n) {
            return;
        }
        if (p != rank) {
            Q[] row = copy[p];
            copy[p] = copy[rank];
            copy[rank] = row;
            det = det.negate();
        }
        det = det.times(copy[rank][c]);
        for (int i = 0; i < n; i++) {
            if (i == rank || copy[i][c].isZero()) {
                continue;
            }
            Q factor = copy[i][c].by(copy[rank][c]);
            for (int j = 0; j <= n; j++) {
                copy[i][j] = copy[i][j].minus(factor.times(copy[rank][j]));
            }
        }
        rank++;
    }

    int rank() {
        return eliminated ? rank : NONE;
    }

    boolean isSolvable() {
        state(eliminated);
        return solvable;
    }

    int most() {
        state(eliminated);
        return most;
    }

    int pivot(int column) {
        index(in(column));
        state(eliminated);
        return pivotRow[column];
    }

    int solution(int column, int which, int k) {
        index(in(column) && part(which));
        state(eliminated && solvable);
        return x[column].tell(which, k);
    }

    int determinant(int which, int k) {
        index(part(which));
        state(eliminated);
        return det.tell(which, k);
    }

    int cell(int row, int column, int which, int k) {
        index(in(row) && (in(column) || column == n) && part(which));
        state(eliminated);
        return copy[row][column].tell(which, k);
    }

    int told(int row, int column, int which, int k) {
        index(in(row) && (in(column) || column == n) && part(which));
        return told[row][column].tell(which, k);
    }

    /** By the sum over all permutations: another way than the one of the class. */
    int modulo(int q) {
        if (q < 2 || q > 46337 || !BigInteger.valueOf(q).isProbablePrime(30)) {
            return NONE;
        }
        BigInteger prime = BigInteger.valueOf(q);
        BigInteger[][] square = new BigInteger[n][n];
        for (int i = 0; i < n; i++) {
            for (int j = 0; j < n; j++) {
                if (told[i][j].den.mod(prime).signum() == 0) {
                    return NONE;
                }
                square[i][j] = told[i][j].num.multiply(told[i][j].den.modInverse(prime)).mod(prime);
            }
        }
        return expand(square, 0, 0).mod(prime).intValue();
    }

    private BigInteger expand(BigInteger[][] square, int row, int used) {
        if (row == n) {
            return BigInteger.ONE;
        }
        BigInteger sum = BigInteger.ZERO;
        int sign = 1;
        for (int j = 0; j < n; j++) {
            if ((used >> j & 1) != 0) {
                continue;
            }
            BigInteger term = square[row][j].signum() == 0 ? BigInteger.ZERO
                    : square[row][j].multiply(expand(square, row + 1, used | 1 << j));
            sum = sign > 0 ? sum.add(term) : sum.subtract(term);
            sign = -sign;
        }
        return sum;
    }

    int meter() {
        return limbs(told);
    }

    boolean isRight(int row) {
        index(in(row));
        state(eliminated && solvable);
        Q rest = told[row][n];
        for (int c = 0; c < n; c++) {
            rest = rest.minus(told[row][c].times(x[c]));
        }
        return rest.same(Q.ZERO);
    }
}
