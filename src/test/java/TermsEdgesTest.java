/** The document's "What it is" and "Terms": each sentence that names a boundary case has a test here. */
public final class TermsEdgesTest {
    private static final int MIN = Make.MIN;
    private static final int MAX = Make.MAX;
    private static final Check CHECK = new Check();

    public static void main(String[] args) {
        usedForAtMost512Calls();
        signIsOneOfThree();
        numeratorsAndDenominatorsHaveNoDivisorInCommon();
        zeroIsZeroByOne();
        limbsLowestFirstWithoutNeedlessZeros();
        limbsOfLongNumbers();
        zeroHasNoLimbs();
        allAreZeroWhenNIsTold();
        meterCountsAllOfNTimesNAndOne();
        eliminationWorksOnACopy();
        firstRowFromROnHasThePivot();
        rowsAboveRHaveNoPivotToGive();
        withoutOneTheColumnHasNone();
        bothChangePlacesAndTheSignTurns();
        fromEachOtherRowIsTakenAway();
        rowsWithZeroThereStayAsTheyAre();
        rightSidesAreTakenAwayToo();
        solvableIfRightSidesFromRankOnAreZero();
        unknownsWithoutAPivotAreZero();
        determinantIsZeroUnlessThereAreNPivots();
        CHECK.finish("TermsEdgesTest");
    }

    /** "An object is used for at most 512 calls": the 512th is answered as the first. */
    private static void usedForAtMost512Calls() {
        LimbSolver setting = Make.zeros(2);
        for (int call = 2; call <= 510; call++) {
            setting.set(call % 2, 1 - call % 2, call, 3);
        }
        CHECK.due("calls: eliminate is call 511", () -> setting.eliminate(Make.ANY), 2);
        // Call 509 set row 1 and call 510 row 0: 510 by 3 and 509 by 3.
        CHECK.due("calls: call 512 has the last value", () -> setting.cell(1, 1, 1, 0), 170);
        LimbSolver eliminating = Make.solver(Make.row(3, 1, 1), Make.row(1, 3, 1));
        for (int call = 8; call <= 511; call++) {
            eliminating.eliminate(call % 2 == 0 ? Make.ANY : 0);
        }
        CHECK.due("calls: eliminate as call 512", () -> eliminating.eliminate(Make.ANY), 2);
        LimbSolver refused = new LimbSolver();
        for (int call = 1; call <= 511; call++) {
            Check.told(() -> refused.set(0, 0, 1, 0));
        }
        CHECK.due("calls: set behind 511 that were refused", () -> refused.set(0, 0, 1, 1), 3);
    }

    /** "A FRACTION has a SIGN (-1, 0, 1)" */
    private static void signIsOneOfThree() {
        LimbSolver x = new LimbSolver();
        int[][] cases = {
            {1, 1, 1}, {-1, 1, -1}, {1, -1, -1}, {-1, -1, 1}, {0, 1, 0}, {0, -1, 0},
            {MAX, 1, 1}, {MAX, MIN, -1}, {MIN, 1, -1}, {MIN, MAX, -1}, {MIN, -1, 1}, {MIN, MIN, 1},
            {1, MIN, -1}, {-1, MIN, 1}, {0, MIN, 0}, {0, MAX, 0},
        };
        for (int[] c : cases) {
            x.set(0, 0, c[0], c[1]);
            CHECK.due("sign of " + c[0] + " by " + c[1], () -> x.told(0, 0, 0, 0), c[2]);
        }
    }

    /** "no divisor in common but 1", "a DENOMINATOR (from 1 on)" */
    private static void numeratorsAndDenominatorsHaveNoDivisorInCommon() {
        long half = 1L << 30;
        long whole = 1L << 31;
        long[][] cases = {
            {1, 1, 1, 1}, {2, 2, 1, 1}, {6, 4, 3, 2}, {6, -4, 3, 2}, {4, 6, 2, 3}, {7, 5, 7, 5},
            {MAX, MAX, 1, 1}, {MAX, -MAX, 1, 1}, {MIN, MIN, 1, 1}, {MIN, 2, half, 1}, {2, MIN, 1, half},
            {MIN, 1, whole, 1}, {MIN, -1, whole, 1}, {1, MIN, 1, whole}, {-1, MIN, 1, whole},
            {MIN, MAX, whole, MAX}, {MAX, MIN, MAX, whole}, {MIN, MIN + 1, whole, MAX},
            {MAX, 2, MAX, 2}, {2, MAX, 2, MAX}, {MAX - 1, MAX - 1, 1, 1}, {46341 * 2, 46341 * 3, 2, 3},
        };
        LimbSolver x = new LimbSolver();
        for (long[] c : cases) {
            String name = c[0] + " by " + c[1];
            x.set(0, 0, (int) c[0], (int) c[1]);
            CHECK.due("numerator of " + name, () -> number(x, 1), c[2]);
            CHECK.due("denominator of " + name, () -> number(x, 2), c[3]);
        }
    }

    /** A told number below 2^32 from its limbs. */
    private static long number(LimbSolver x, int which) {
        long sum = 0;
        for (int k = x.told(0, 0, which, -1) - 1; k >= 0; k--) {
            sum = sum * 65536 + x.told(0, 0, which, k);
        }
        return sum;
    }

    /** "0 is 0 by 1" */
    private static void zeroIsZeroByOne() {
        LimbSolver x = new LimbSolver();
        for (int den : new int[] {1, -1, 2, 65536, MAX, MIN}) {
            x.set(0, 0, 0, den);
            CHECK.due("0 by " + den + " has sign 0", () -> x.told(0, 0, 0, 0), 0);
            CHECK.due("0 by " + den + " has numerator 0", () -> number(x, 1), 0);
            CHECK.due("0 by " + den + " has denominator 1", () -> number(x, 2), 1);
            CHECK.due("0 by " + den + " takes one limb", () -> x.meter(), 2);
        }
        LimbSolver gone = Make.zeros(2);
        gone.set(0, 0, 1, 7);
        gone.set(1, 0, 1, 7);
        gone.set(0, 1, 5, 11);
        gone.set(1, 1, 5, 11);
        gone.eliminate(Make.ANY);
        CHECK.due("what becomes 0 has sign 0", () -> gone.cell(1, 1, 0, 0), 0);
        CHECK.due("what becomes 0 has denominator 1", () -> gone.cell(1, 1, 2, 0), 1);
        CHECK.due("the cleared cell has denominator 1", () -> gone.cell(1, 0, 2, 0), 1);
        CHECK.due("a solution of 0 has denominator 1", () -> gone.solution(0, 2, 0), 1);
        CHECK.due("a determinant of 0 has denominator 1", () -> gone.determinant(2, 0), 1);
    }

    /** "the lowest one first, without needless zeros" */
    private static void limbsLowestFirstWithoutNeedlessZeros() {
        int[][] cases = {
            {1, 1}, {65535, 65535}, {65536, 0, 1}, {65537, 1, 1}, {131071, 65535, 1}, {131072, 0, 2},
            {MAX, 65535, 32767}, {MIN, 0, 32768}, {MIN + 1, 65535, 32767}, {1 << 30, 0, 16384},
        };
        for (int[] c : cases) {
            LimbSolver x = new LimbSolver();
            x.set(0, 0, c[0], 1);
            x.right(0, 1, c[0]);
            for (int k = 0; k < c.length - 1; k++) {
                int at = k;
                CHECK.due("limb " + k + " of " + c[0], () -> x.told(0, 0, 1, at), c[k + 1]);
                CHECK.due("limb " + k + " below, of " + c[0], () -> x.told(0, 1, 2, at), c[k + 1]);
            }
            CHECK.due("limbs of " + c[0], () -> x.told(0, 0, 1, -1), c.length - 1);
            CHECK.due("limbs below, of " + c[0], () -> x.told(0, 1, 2, -1), c.length - 1);
            CHECK.due("no limb above those of " + c[0], () -> x.told(0, 0, 1, c.length - 1), -1);
            CHECK.due("no limb above those below, of " + c[0], () -> x.told(0, 1, 2, c.length - 1), -1);
        }
    }

    /** The same, for each power of 2 that a determinant can be, and for figures that are all full. */
    private static void limbsOfLongNumbers() {
        for (int power = 0; power <= 6 * 31; power++) {
            int[] factors = new int[6];
            int rest = power;
            for (int i = 0; i < 6; i++) {
                int part = Math.min(rest, 31);
                factors[i] = 1 << part;
                rest -= part;
            }
            limbsOfPower("2^" + power, power, 1, Make.diagonal(factors));
            limbsOfPower("1 by 2^" + power, power, 2, Make.diagonalBelow(factors));
        }
        allFull(2, 65535, 65537);
        allFull(3, 16777215, 16777217);
        allFull(4, 65535, 65537, 641, 6700417);
        allFull(6, 16777215, 16777217, 193, 65537, 22253377);
    }

    private static void limbsOfPower(String name, int power, int which, LimbSolver x) {
        int top = power / 16;
        CHECK.due("limbs of " + name, () -> x.determinant(which, -1), top + 1);
        CHECK.due("limbs of the other part of " + name, () -> x.determinant(3 - which, -1), 1);
        for (int k = 0; k < top; k++) {
            int at = k;
            CHECK.due("limb " + k + " of " + name, () -> x.determinant(which, at), 0);
        }
        CHECK.due("highest limb of " + name, () -> x.determinant(which, top), 1L << power % 16);
        CHECK.due("no limb above " + name, () -> x.determinant(which, top + 1), -1);
    }

    /** The factors' product is 65536^limbs - 1. */
    private static void allFull(int limbs, int... factors) {
        LimbSolver x = Make.diagonal(factors);
        String name = "65536^" + limbs + " - 1";
        CHECK.due("limbs of " + name, () -> x.determinant(1, -1), limbs);
        for (int k = 0; k < limbs; k++) {
            int at = k;
            CHECK.due("limb " + k + " of " + name, () -> x.determinant(1, at), 65535);
        }
        CHECK.due("no limb above " + name, () -> x.determinant(1, limbs), -1);
    }

    /** "(0 has none)" */
    private static void zeroHasNoLimbs() {
        LimbSolver x = Make.eliminated(Make.row(0, 0));
        CHECK.due("told 0 has no limbs", () -> x.told(0, 0, 1, -1), 0);
        CHECK.due("told 0 has no limb 0", () -> x.told(0, 0, 1, 0), -1);
        CHECK.due("cell 0 has no limbs", () -> x.cell(0, 0, 1, -1), 0);
        CHECK.due("cell 0 has no limb 0", () -> x.cell(0, 0, 1, 0), -1);
        CHECK.due("solution 0 has no limbs", () -> x.solution(0, 1, -1), 0);
        CHECK.due("solution 0 has no limb 0", () -> x.solution(0, 1, 0), -1);
        CHECK.due("determinant 0 has no limbs", () -> x.determinant(1, -1), 0);
        CHECK.due("determinant 0 has no limb 0", () -> x.determinant(1, 0), -1);
    }

    /** "all 0 when N is told" */
    private static void allAreZeroWhenNIsTold() {
        for (int n = 1; n <= 6; n++) {
            LimbSolver x = crowded(6);
            x.size(n);
            String fresh = Seen.toldOnly(Make.zeros(n), n);
            CHECK.due("all 0 behind size " + n, Seen.toldOnly(x, n), fresh);
        }
        LimbSolver again = crowded(2);
        again.size(1);
        again.size(2);
        CHECK.due("all 0 behind size 1 and 2", Seen.toldOnly(again, 2), Seen.toldOnly(Make.zeros(2), 2));
    }

    /** Every cell and right side with two limbs above and two below. */
    private static LimbSolver crowded(int n) {
        LimbSolver x = Make.zeros(n);
        for (int i = 0; i < n; i++) {
            for (int j = 0; j < n; j++) {
                x.set(i, j, MIN, MAX - i - 6 * j - (i & 1));
            }
            x.right(i, MAX, MIN);
        }
        return x;
    }

    /** "how many LIMBS all NUMERATORS and DENOMINATORS of the N times N + 1 have, together" */
    private static void meterCountsAllOfNTimesNAndOne() {
        for (int n = 1; n <= 6; n++) {
            LimbSolver empty = Make.zeros(n);
            CHECK.due("the least meter of size " + n, () -> empty.meter(), n * (n + 1));
            LimbSolver x = Make.zeros(n);
            int sum = n * (n + 1);
            for (int i = 0; i < n; i++) {
                for (int j = 0; j <= n; j++) {
                    sum += 3;
                    int row = i;
                    int column = j;
                    boolean isCell = j < n;
                    CHECK.due("meter of size " + n + " up to " + i + ", " + j,
                            () -> isCell ? x.set(row, column, MIN, MAX) : x.right(row, MIN, MAX), sum);
                }
            }
            CHECK.due("the greatest meter of size " + n, () -> x.meter(), 4 * n * (n + 1));
        }
    }

    /** "ELIMINATION works on a copy" */
    private static void eliminationWorksOnACopy() {
        LimbSolver x = Make.solver(Make.row(0, 2, 1, 5), Make.row(3, 4, 1, 6), Make.row(7, 1, 2, 8));
        String before = Seen.toldOnly(x, 3);
        x.eliminate(Make.ANY);
        CHECK.due("an elimination leaves what was told", Seen.toldOnly(x, 3), before);
        x.eliminate(x.meter());
        CHECK.due("one that answers NONE does, too", Seen.toldOnly(x, 3), before);
    }

    /** "the first row from r on whose CELL in the column is not 0 has the PIVOT" */
    private static void firstRowFromROnHasThePivot() {
        LimbSolver own = Make.eliminated(Make.row(2, 0, 1), Make.row(9, 1, 1));
        CHECK.due("row r itself, though one below is greater", () -> own.cell(0, 0, 1, 0), 2);
        LimbSolver next = Make.eliminated(Make.row(0, 1, 0, 1), Make.row(3, 0, 0, 1), Make.row(9, 0, 1, 1));
        CHECK.due("the first below, not the greatest", () -> next.cell(0, 0, 1, 0), 3);
        LimbSolver last = Make.eliminated(Make.row(0, 1, 0, 1), Make.row(0, 0, 1, 1), Make.row(5, 0, 0, 1));
        CHECK.due("the last row, too", () -> last.cell(0, 0, 1, 0), 5);
        LimbSolver negative = Make.eliminated(Make.row(0, 1, 1), Make.row(-4, 0, 1));
        CHECK.due("one below 0 is not 0", () -> negative.cell(0, 0, 0, 0), -1);
    }

    /** "from r on": a row above that is not 0 there does not count. */
    private static void rowsAboveRHaveNoPivotToGive() {
        LimbSolver x = Make.eliminated(Make.row(1, 5, 0, 1), Make.row(0, 0, 2, 4), Make.row(0, 0, 3, 6));
        CHECK.due("no pivot from above", () -> x.pivot(1), -1);
        CHECK.due("the row above stays", () -> x.cell(0, 1, 1, 0), 5);
        CHECK.due("the next column takes row r", () -> x.pivot(2), 1);
        CHECK.due("rank", () -> x.rank(), 2);
    }

    /** "(without one the column has none)" */
    private static void withoutOneTheColumnHasNone() {
        LimbSolver first = Make.eliminated(Make.row(0, 1, 2), Make.row(0, 3, 6));
        CHECK.due("the first column has none", () -> first.pivot(0), -1);
        CHECK.due("the next one has row 0", () -> first.pivot(1), 0);
        LimbSolver last = Make.eliminated(Make.row(1, 1, 2), Make.row(1, 1, 2));
        CHECK.due("the last column has none", () -> last.pivot(1), -1);
        LimbSolver all = Make.eliminated(Make.row(0, 0, 2), Make.row(0, 0, 3));
        CHECK.due("no column has one", () -> all.rank(), 0);
    }

    /** "if it is not row r, both change places (and the determinant's sign turns)" */
    private static void bothChangePlacesAndTheSignTurns() {
        LimbSolver none = Make.eliminated(Make.row(1, 0, 7), Make.row(0, 1, 8));
        CHECK.due("row r itself turns no sign", () -> none.determinant(0, 0), 1);
        LimbSolver one = Make.eliminated(Make.row(0, 1, 7), Make.row(1, 0, 8));
        CHECK.due("a change turns the sign", () -> one.determinant(0, 0), -1);
        CHECK.due("the right sides change, too", () -> one.cell(0, 2, 1, 0), 8);
        CHECK.due("both do", () -> one.cell(1, 2, 1, 0), 7);
        // Row 2 goes up and row 0 takes its place; row 1 stays and needs no change then.
        LimbSolver outer = Make.eliminated(Make.row(0, 0, 1, 7), Make.row(0, 1, 0, 8), Make.row(1, 0, 0, 9));
        CHECK.due("the row between stays", () -> outer.cell(1, 3, 1, 0), 8);
        CHECK.due("so there is one change", () -> outer.determinant(0, 0), -1);
        LimbSolver two = Make.eliminated(Make.row(0, 0, 1, 7), Make.row(1, 0, 0, 8), Make.row(0, 1, 0, 9));
        CHECK.due("two changes turn it twice", () -> two.determinant(0, 0), 1);
        int[] signs = {1, -1, -1, 1, 1, -1};
        for (int n = 1; n <= 6; n++) {
            LimbSolver x = Make.crossed(n);
            x.eliminate(Make.ANY);
            CHECK.due("sign of the crossed square " + n, () -> x.determinant(0, 0), signs[n - 1]);
        }
    }

    /** "then from each other row with a CELL there that is not 0 so much of row r is taken away" */
    private static void fromEachOtherRowIsTakenAway() {
        LimbSolver x = Make.eliminated(Make.row(2, 1, 1, 1), Make.row(4, 3, 1, 2), Make.row(6, 4, 3, 4));
        for (int i = 0; i < 3; i++) {
            for (int j = 0; j < 3; j++) {
                int row = i;
                int column = j;
                CHECK.due("cell " + i + ", " + j + " is a pivot or 0", () -> x.cell(row, column, 0, 0),
                        i == j ? 1 : 0);
            }
        }
        CHECK.due("the pivot is not brought to 1", () -> x.cell(0, 0, 1, 0), 2);
    }

    /** "with a CELL there that is not 0": the others keep each cell. */
    private static void rowsWithZeroThereStayAsTheyAre() {
        LimbSolver x = Make.eliminated(Make.row(2, 5, 0, 1), Make.row(0, 0, 3, 6), Make.row(0, 0, 0, 0));
        CHECK.due("the row above keeps its cell", () -> x.cell(0, 1, 1, 0), 5);
        CHECK.due("the row above keeps its right side", () -> x.cell(0, 3, 1, 0), 1);
        CHECK.due("the row below keeps its right side", () -> x.cell(1, 3, 1, 0), 6);
        CHECK.due("no state has more limbs", () -> x.most(), x.meter());
    }

    /** "(its RIGHT SIDE, too)" */
    private static void rightSidesAreTakenAwayToo() {
        LimbSolver x = Make.eliminated(Make.row(1, 2, 5), Make.row(1, 3, 7));
        CHECK.due("the right side below", () -> x.cell(1, 2, 1, 0), 2);
        CHECK.due("the right side above", () -> x.cell(0, 2, 1, 0), 1);
        LimbSolver zero = Make.eliminated(Make.row(1, 2, 5), Make.row(1, 3, 0));
        CHECK.due("one that was 0", () -> zero.cell(1, 2, 0, 0), -1);
        LimbSolver gone = Make.eliminated(Make.row(1, 2, 5), Make.row(1, 3, 5));
        CHECK.due("one that becomes 0", () -> gone.cell(1, 2, 0, 0), 0);
    }

    /** "SOLVABLE, if the RIGHT SIDES of all rows from RANK on are 0" */
    private static void solvableIfRightSidesFromRankOnAreZero() {
        int[] pivot = Make.row(1, 1, 1, 4);
        int[] same = Make.row(2, 2, 2, 8);
        int[] other = Make.row(2, 2, 2, 9);
        solvable("all 0 from rank on", 1, pivot, same, same);
        solvable("row rank is not 0", 0, pivot, other, same);
        solvable("the last row is not 0", 0, pivot, same, other);
        solvable("none is 0", 0, pivot, other, other);
        solvable("rank 0, all 0", 1, Make.row(0, 0));
        solvable("full rank has no such rows", 1, Make.row(1, 0, 3), Make.row(0, 1, 4));
        solvable("rank 0, right side 1", 0, Make.row(0, 1));
    }

    private static void solvable(String name, long want, int[]... rows) {
        LimbSolver x = Make.eliminated(rows);
        CHECK.due(name, () -> Make.truth(x.isSolvable()), want);
    }

    /** "x of a column with a PIVOT is the RIGHT SIDE of that row by the PIVOT, x of others 0" */
    private static void unknownsWithoutAPivotAreZero() {
        LimbSolver x = Make.eliminated(Make.row(0, 4, 6, 10), Make.row(0, 0, 0, 0), Make.row(0, 0, 0, 0));
        CHECK.due("x before the pivot's column", () -> x.solution(0, 0, 0), 0);
        CHECK.due("x of the pivot's column", () -> x.solution(1, 1, 0), 5);
        CHECK.due("by", () -> x.solution(1, 2, 0), 2);
        CHECK.due("x behind the pivot's column", () -> x.solution(2, 0, 0), 0);
        LimbSolver below = Make.eliminated(Make.row(-4, 10));
        CHECK.due("a pivot below 0 turns the sign", () -> below.solution(0, 0, 0), -1);
    }

    /** "The DETERMINANT is the product of all PIVOTS, with its sign, if there are N, and else 0." */
    private static void determinantIsZeroUnlessThereAreNPivots() {
        for (int n = 1; n <= 6; n++) {
            for (int rank = 0; rank <= n; rank++) {
                int[] values = new int[n];
                int product = 1;
                for (int i = 0; i < n; i++) {
                    values[i] = i < rank ? i + 2 : 0;
                    product *= i + 2;
                }
                LimbSolver x = Make.diagonal(values);
                CHECK.due("sign with " + rank + " of " + n, () -> x.determinant(0, 0), rank == n ? 1 : 0);
                CHECK.due("limb with " + rank + " of " + n, () -> x.determinant(1, 0), rank == n ? product : -1);
            }
        }
    }
}
