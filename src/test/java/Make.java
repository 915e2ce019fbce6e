/** Objects for the tests, made in a few words. */
final class Make {
    static final int MIN = Integer.MIN_VALUE;
    static final int MAX = Integer.MAX_VALUE;
    /** No state's meter comes near it: 84 numbers of 151 limbs would be 12684. */
    static final int ANY = 40000;

    private Make() {
    }

    static int[] row(int... values) {
        return values;
    }

    /** Rows of n cells and a right side, all whole. */
    static LimbSolver solver(int[]... rows) {
        LimbSolver x = new LimbSolver();
        x.size(rows.length);
        for (int i = 0; i < rows.length; i++) {
            for (int j = 0; j < rows.length; j++) {
                x.set(i, j, rows[i][j], 1);
            }
            x.right(i, rows[i][rows.length], 1);
        }
        return x;
    }

    static LimbSolver eliminated(int[]... rows) {
        LimbSolver x = solver(rows);
        x.eliminate(ANY);
        return x;
    }

    static LimbSolver zeros(int n) {
        LimbSolver x = new LimbSolver();
        x.size(n);
        return x;
    }

    /** Eliminated, with the values from the upper left on and right sides 0. */
    static LimbSolver diagonal(int... values) {
        LimbSolver x = zeros(values.length);
        for (int i = 0; i < values.length; i++) {
            x.set(i, i, values[i], 1);
        }
        x.eliminate(ANY);
        return x;
    }

    static LimbSolver diagonalBelow(int... values) {
        LimbSolver x = zeros(values.length);
        for (int i = 0; i < values.length; i++) {
            x.set(i, i, 1, values[i]);
        }
        x.eliminate(ANY);
        return x;
    }

    /** Ones from the upper right to the lower left, right sides 1, 2 and so on; not eliminated. */
    static LimbSolver crossed(int n) {
        LimbSolver x = zeros(n);
        for (int i = 0; i < n; i++) {
            x.set(i, n - 1 - i, 1, 1);
            x.right(i, i + 1, 1);
        }
        return x;
    }

    static long resize(LimbSolver x, int n) {
        x.size(n);
        return 0;
    }

    static long truth(boolean value) {
        return value ? 1 : 0;
    }
}
