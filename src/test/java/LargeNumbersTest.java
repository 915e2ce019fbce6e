import java.math.BigInteger;
import java.util.Random;

/** The largest numbers that can come: every limb of the last state is compared. */
public final class LargeNumbersTest {
    private static final int N = 6;
    private static final int CALLS = 512;
    private static final Check CHECK = new Check();

    private LimbSolver solver;
    private Reference reference;
    private int[][] nums;
    private int[][] dens;
    private int calls;

    public static void main(String[] args) {
        new LargeNumbersTest().primes(1, Integer.MAX_VALUE);
        new LargeNumbersTest().primes(-1, Integer.MIN_VALUE);
        new LargeNumbersTest().powersOfTwo();
        new LargeNumbersTest().capsBetween();
        CHECK.finish("LargeNumbersTest");
    }

    private LargeNumbersTest() {
        nums = new int[N][N + 1];
        dens = new int[N][N + 1];
    }

    /** 84 different primes just below 2^31 have nothing in common: the cells grow as far as they can. */
    private void primes(int sign, int corner) {
        BigInteger prime = BigInteger.valueOf((1L << 31) - 4000);
        Random random = new Random(84);
        for (int i = 0; i < N; i++) {
            for (int j = 0; j <= N; j++) {
                prime = prime.nextProbablePrime();
                dens[i][j] = prime.intValueExact();
                prime = prime.nextProbablePrime();
                nums[i][j] = random.nextBoolean() ? prime.intValueExact() : sign * prime.intValueExact();
            }
        }
        nums[0][0] = corner;
        compareAll();
    }

    private void powersOfTwo() {
        for (int i = 0; i < N; i++) {
            for (int j = 0; j <= N; j++) {
                nums[i][j] = Integer.MAX_VALUE - (i + 1) * (j + 3) * (i + j);
                dens[i][j] = j % 2 == 0 ? Integer.MIN_VALUE >> i : Integer.MAX_VALUE - 2 * i;
            }
        }
        compareAll();
    }

    private void capsBetween() {
        for (int i = 0; i < N; i++) {
            for (int j = 0; j <= N; j++) {
                nums[i][j] = 1;
                dens[i][j] = 1000000 + i * j + i + 7 * j;
            }
        }
        tell();
        int most = reference.eliminate(40000) < 0 ? 0 : reference.most();
        for (int cap = most - 60; cap <= most + 60; cap++) {
            int now = cap;
            CHECK.due("cap " + cap, () -> solver.eliminate(now), reference.eliminate(cap));
            CHECK.due("rank behind cap " + cap, () -> solver.rank(), reference.rank());
        }
    }

    private void tell() {
        solver = new LimbSolver();
        reference = new Reference();
        solver.size(N);
        reference.size(N);
        for (int i = 0; i < N; i++) {
            for (int j = 0; j < N; j++) {
                solver.set(i, j, nums[i][j], dens[i][j]);
                reference.set(i, j, nums[i][j], dens[i][j]);
            }
            solver.right(i, nums[i][N], dens[i][N]);
            reference.right(i, nums[i][N], dens[i][N]);
        }
        calls = 1 + N * (N + 1);
    }

    /** An object is promised to answer 512 calls only, so that it is made anew before. */
    private void compare(String name, Check.Call got, long want) {
        if (calls + 2 > CALLS) {
            tell();
            solver.eliminate(40000);
            reference.eliminate(40000);
            calls++;
        }
        calls++;
        CHECK.due(name, got, want);
    }

    private void compareAll() {
        tell();
        compare("eliminate", () -> solver.eliminate(40000), reference.eliminate(40000));
        compare("most", () -> solver.most(), reference.most());
        compare("modulo", () -> solver.modulo(46327), reference.modulo(46327));
        for (int row = 0; row < N; row++) {
            int i = row;
            compare("isRight " + i, () -> solver.isRight(i) ? 1 : 0, reference.isRight(i) ? 1 : 0);
            for (int which = 0; which <= 2; which++) {
                compareParts(row, which);
            }
        }
        for (int which = 1; which <= 2; which++) {
            int part = which;
            for (int limb = reference.determinant(which, -1); limb >= -1; limb--) {
                int k = limb;
                compare("determinant " + part + " " + k, () -> solver.determinant(part, k),
                        reference.determinant(part, k));
            }
        }
    }

    private void compareParts(int i, int which) {
        for (int limb = reference.solution(i, which, -1); limb >= -1; limb--) {
            int k = limb;
            compare("solution " + i + " " + which + " " + k, () -> solver.solution(i, which, k),
                    reference.solution(i, which, k));
        }
        for (int column = 0; column <= N; column++) {
            int j = column;
            for (int limb = reference.cell(i, j, which, -1); limb >= -1; limb--) {
                int k = limb;
                compare("cell " + i + " " + j + " " + which + " " + k, () -> solver.cell(i, j, which, k),
                        reference.cell(i, j, which, k));
            }
        }
    }
}
