import java.util.Random;

/** Runs of at most 512 calls, drawn with fixed seeds, compared call by call with the Reference. */
public final class RandomRunsTest {
    private static final int RUNS = 600;
    private static final int CALLS = 512;
    private static final int[] PRIMES = {2, 3, 5, 7, 11, 13, 17, 65521, 46337, 46327, 32749, 257, 46339, 46349};
    private static final int[] ODD = {0, 1, -1, 2, -2, 65535, 65536, 65537, -65536, 131071, 1 << 30, 1 << 24,
        Integer.MAX_VALUE, Integer.MIN_VALUE, Integer.MIN_VALUE + 1, Integer.MAX_VALUE - 1, 46337, 2 * 46337};

    private final Check check = new Check();
    private Random random;
    private LimbSolver solver;
    private Reference reference;
    private int kind;
    private int size;
    private int run;

    public static void main(String[] args) {
        RandomRunsTest test = new RandomRunsTest();
        for (int run = 0; run < RUNS && test.check.isClean(); run++) {
            test.oneRun(run);
        }
        test.check.finish("RandomRunsTest");
    }

    private void oneRun(int seed) {
        run = seed;
        random = new Random(seed);
        solver = new LimbSolver();
        reference = new Reference();
        size = 1;
        kind = random.nextInt(6);
        int calls = 0;
        while (calls < CALLS) {
            if (random.nextInt(90) == 0) {
                calls += fill(CALLS - calls);
            } else {
                oneCall();
                calls++;
            }
        }
    }

    /** A whole square, often with rows that hang together, so that ranks below n come. */
    private int fill(int most) {
        int n = 1 + random.nextInt(6);
        if (n * (n + 1) + 2 > most) {
            oneCall();
            return 1;
        }
        resize(n);
        int[][] nums = new int[n][n + 1];
        int[][] dens = new int[n][n + 1];
        for (int i = 0; i < n; i++) {
            int twin = i > 0 && random.nextInt(4) == 0 ? random.nextInt(i) : -1;
            for (int j = 0; j <= n; j++) {
                nums[i][j] = twin < 0 ? value() : nums[twin][j];
                dens[i][j] = twin < 0 ? nonZero() : dens[twin][j];
                if (twin >= 0 && j == n && random.nextInt(3) == 0) {
                    nums[i][j] = value();
                }
                put(i, j, nums[i][j], dens[i][j]);
            }
        }
        eliminate(40000);
        return n * (n + 1) + 2;
    }

    private int value() {
        switch (kind) {
            case 0:
                return random.nextInt(5) - 2;
            case 1:
                return random.nextInt(3) == 0 ? random.nextInt(19) - 9 : 0;
            case 2:
                return random.nextInt();
            case 3:
                return ODD[random.nextInt(ODD.length)];
            case 4:
                return random.nextInt() >> random.nextInt(31);
            default:
                return random.nextBoolean() ? 0 : random.nextInt() >> random.nextInt(31);
        }
    }

    private int nonZero() {
        int value = value();
        return value == 0 ? 1 + random.nextInt(3) : value;
    }

    /** An index that is mostly there. */
    private int index(int bound) {
        int drawn = random.nextInt(40);
        if (drawn == 0) {
            return -1;
        }
        if (drawn == 1) {
            return bound;
        }
        return drawn == 2 ? ODD[random.nextInt(ODD.length)] : random.nextInt(bound);
    }

    private int limb() {
        int drawn = random.nextInt(20);
        if (drawn < 3) {
            return -1;
        }
        if (drawn == 3) {
            return ODD[random.nextInt(ODD.length)];
        }
        return drawn == 4 ? -2 : random.nextInt(drawn < 12 ? 3 : 90);
    }

    private void oneCall() {
        int row = index(size);
        int column = index(size);
        int wide = index(size + 1);
        int which = index(3);
        int k = limb();
        switch (random.nextInt(24)) {
            case 0:
                if (random.nextInt(12) == 0) {
                    resize(index(7));
                }
                break;
            case 1:
                if (random.nextInt(4) == 0) {
                    put(row, wide, value(), value());
                }
                break;
            case 2:
                if (random.nextInt(4) == 0) {
                    setBeyond(row, column);
                }
                break;
            case 3:
                eliminate(cap());
                break;
            case 4:
            case 5:
                eliminate(40000);
                break;
            case 6:
                check.due(name("rank()"), () -> solver.rank(), reference.rank());
                break;
            case 7:
                compare("isSolvable()", () -> solver.isSolvable() ? 1 : 0, () -> reference.isSolvable() ? 1 : 0);
                break;
            case 8:
                compare("most()", () -> solver.most(), () -> reference.most());
                break;
            case 9:
                compare("pivot " + column, () -> solver.pivot(column), () -> reference.pivot(column));
                break;
            case 10:
                int q = random.nextBoolean() ? PRIMES[random.nextInt(PRIMES.length)] : random.nextInt(46400) - 20;
                compare("modulo " + q, () -> solver.modulo(q), () -> reference.modulo(q));
                break;
            case 11:
                compare("meter()", () -> solver.meter(), () -> reference.meter());
                break;
            case 12:
                compare("isRight " + row, () -> solver.isRight(row) ? 1 : 0, () -> reference.isRight(row) ? 1 : 0);
                break;
            case 13:
            case 14:
                compare("told " + row + " " + wide + " " + which + " " + k,
                        () -> solver.told(row, wide, which, k), () -> reference.told(row, wide, which, k));
                break;
            case 15:
            case 16:
                compare("determinant " + which + " " + k,
                        () -> solver.determinant(which, k), () -> reference.determinant(which, k));
                break;
            case 17:
            case 18:
            case 19:
                compare("solution " + column + " " + which + " " + k,
                        () -> solver.solution(column, which, k), () -> reference.solution(column, which, k));
                break;
            default:
                compare("cell " + row + " " + wide + " " + which + " " + k,
                        () -> solver.cell(row, wide, which, k), () -> reference.cell(row, wide, which, k));
                break;
        }
    }

    private int cap() {
        int drawn = random.nextInt(6);
        if (drawn == 0) {
            return ODD[random.nextInt(ODD.length)];
        }
        if (drawn == 1) {
            return 40001;
        }
        return drawn == 2 ? random.nextInt(40001) : reference.meter() + random.nextInt(200) - 10;
    }

    private void resize(int n) {
        compare("size " + n, () -> {
            solver.size(n);
            return 0;
        }, () -> {
            reference.size(n);
            return 0;
        });
        size = n >= 1 && n <= 6 ? n : size;
    }

    private void put(int row, int column, int num, int den) {
        if (column == size) {
            compare("right " + row + " " + num + " " + den,
                    () -> solver.right(row, num, den), () -> reference.right(row, num, den));
        } else {
            compare("set " + row + " " + column + " " + num + " " + den,
                    () -> solver.set(row, column, num, den), () -> reference.set(row, column, num, den));
        }
    }

    private void setBeyond(int row, int column) {
        int den = value();
        int beyond = random.nextBoolean() ? size : column;
        compare("set " + row + " " + beyond + " 1 " + den,
                () -> solver.set(row, beyond, 1, den), () -> reference.set(row, beyond, 1, den));
    }

    private void eliminate(int cap) {
        compare("eliminate " + cap, () -> solver.eliminate(cap), () -> reference.eliminate(cap));
    }

    private void compare(String call, Check.Call got, Check.Call want) {
        check.due(name(call), Check.told(got), Check.told(want));
    }

    private String name(String call) {
        return "run " + run + ": " + call;
    }
}
