/** Promises 1 to 4, 13 and 15: each sentence that names a boundary case has a test here. */
public final class ToldEdgesTest {
    private static final int MIN = Make.MIN;
    private static final int MAX = Make.MAX;
    private static final Check CHECK = new Check();

    public static void main(String[] args) {
        newObjectHasSizeOne();
        newObjectIsNotEliminated();
        sizeFromOneToSix();
        sizeRefusesTheOthers();
        sizeMakesAllZero();
        sizeEndsWhatWasEliminated();
        setTakesEachCell();
        setRefusesWhatIsNoCell();
        setRefusesZeroBelow();
        setEndsWhatWasEliminated();
        setAnswersTheMeter();
        rightTakesEachRow();
        rightRefusesWhatIsNoRow();
        rightRefusesZeroBelow();
        rightEndsWhatWasEliminated();
        rightAnswersTheMeter();
        toldTakesEachCellAndRightSide();
        toldRefusesWhatIsNoCell();
        toldRefusesAnotherWhich();
        toldAnswersNoneBeyondTheLimbs();
        toldIsAsItWasTold();
        meterIsOfWhatWasTold();
        CHECK.finish("ToldEdgesTest");
    }

    /** Numbers that are no index of a size n, with some that a product of index and width could bring back. */
    static int[] beyond(int n) {
        return new int[] {-1, n, n + 1, 6, 7, 8, 42, -7, MIN, MAX, MIN + 1, MAX / 7 + 1, 1 << 30, 1 << 29, 613566757};
    }

    /** Promise 1: "N is 1." */
    private static void newObjectHasSizeOne() {
        LimbSolver x = new LimbSolver();
        CHECK.due("1: meter of one cell and one right side", () -> x.meter(), 2);
        CHECK.due("1: told cell", () -> x.told(0, 0, 0, 0), 0);
        CHECK.due("1: told right side", () -> x.told(0, 1, 0, 0), 0);
        CHECK.outside("1: told row 1", () -> x.told(1, 0, 0, 0));
        CHECK.outside("1: told column 2", () -> x.told(0, 2, 0, 0));
        CHECK.outside("1: set row 1", () -> x.set(1, 0, 1, 1));
        CHECK.outside("1: set column 1", () -> x.set(0, 1, 1, 1));
        CHECK.outside("1: right row 1", () -> x.right(1, 1, 1));
        CHECK.outside("1: pivot column 1", () -> x.pivot(1));
        CHECK.outside("1: solution column 1", () -> x.solution(1, 0, 0));
        CHECK.outside("1: cell row 1", () -> x.cell(1, 0, 0, 0));
        CHECK.outside("1: isRight row 1", () -> Make.truth(x.isRight(1)));
        CHECK.due("1: set row 0, column 0", () -> x.set(0, 0, 4, 1), 3);
        CHECK.due("1: right row 0", () -> x.right(0, 6, 1), 4);
        CHECK.due("1: its determinant", () -> x.modulo(3), 1);
        CHECK.due("1: its rank", () -> x.eliminate(4), 1);
    }

    /** A new object has nothing eliminated, and is as one whose N was told to be 1. */
    private static void newObjectIsNotEliminated() {
        LimbSolver x = new LimbSolver();
        CHECK.due("1: no rank", () -> x.rank(), -1);
        CHECK.early("1: not solvable or not", () -> Make.truth(x.isSolvable()));
        CHECK.due("1: as size 1", Seen.all(x, 1), Seen.all(Make.zeros(1), 1));
        CHECK.due("1: zeros, eliminated", () -> x.eliminate(2), 0);
    }

    /** Promise 2: "N is n", 1 .. 6 */
    private static void sizeFromOneToSix() {
        for (int n = 1; n <= 6; n++) {
            int size = n;
            LimbSolver x = new LimbSolver();
            CHECK.due("2: size " + n, () -> Make.resize(x, size), 0);
            CHECK.due("2: meter of size " + n, () -> x.meter(), n * (n + 1));
            CHECK.due("2: last cell of size " + n, () -> x.set(size - 1, size - 1, 1, 1), n * (n + 1) + 1);
            CHECK.due("2: last right side of size " + n, () -> x.right(size - 1, 1, 1), n * (n + 1) + 2);
            CHECK.outside("2: no row behind size " + n, () -> x.set(size, 0, 1, 1));
            CHECK.outside("2: no column behind size " + n, () -> x.set(0, size, 1, 1));
        }
    }

    /** Promise 2: "IllegalArgumentException: it is not 1 .. 6." */
    private static void sizeRefusesTheOthers() {
        for (int n : new int[] {0, 7, -1, 8, -6, MIN, MAX, 1 << 16, MIN + 1, MIN + 6}) {
            LimbSolver x = Make.eliminated(Make.row(1, 2, 5), Make.row(3, 4, 6));
            String before = Seen.all(x, 2);
            CHECK.refused("2: size " + n, () -> Make.resize(x, n));
            CHECK.due("2: size " + n + " changes nothing", Seen.all(x, 2), before);
        }
    }

    /** Promise 2: "all is 0" */
    private static void sizeMakesAllZero() {
        for (int n = 1; n <= 6; n++) {
            for (int before = 1; before <= 6; before++) {
                LimbSolver x = Make.crossed(before);
                x.eliminate(Make.ANY);
                x.size(n);
                String name = "2: from size " + before + " to " + n;
                CHECK.due(name, Seen.toldOnly(x, n), Seen.toldOnly(Make.zeros(n), n));
                CHECK.due(name + ", rank", () -> x.eliminate(Make.ANY), 0);
            }
        }
    }

    /** Promise 2: "not eliminated" */
    private static void sizeEndsWhatWasEliminated() {
        for (int n = 1; n <= 6; n++) {
            LimbSolver x = Make.eliminated(Make.row(1, 2, 5), Make.row(3, 4, 6));
            x.size(n);
            CHECK.due("2: no rank behind size " + n, () -> x.rank(), -1);
            CHECK.early("2: no most behind size " + n, () -> x.most());
        }
    }

    /** Promise 3: "A CELL becomes num by den", and no other does. */
    private static void setTakesEachCell() {
        for (int n = 1; n <= 6; n++) {
            for (int i = 0; i < n; i++) {
                for (int j = 0; j < n; j++) {
                    LimbSolver x = Make.zeros(n);
                    x.set(i, j, -6, 4);
                    onlyThere("3: size " + n, x, n, i, j);
                }
            }
        }
    }

    /** Promise 4: "A RIGHT SIDE becomes num by den", and no other does. */
    private static void rightTakesEachRow() {
        for (int n = 1; n <= 6; n++) {
            for (int i = 0; i < n; i++) {
                LimbSolver x = Make.zeros(n);
                x.right(i, -6, 4);
                onlyThere("4: size " + n, x, n, i, n);
            }
        }
    }

    private static void onlyThere(String name, LimbSolver x, int n, int row, int column) {
        for (int i = 0; i < n; i++) {
            for (int j = 0; j <= n; j++) {
                int r = i;
                int c = j;
                boolean there = i == row && j == column;
                String at = name + ", " + row + ", " + column + " told, at " + i + ", " + j;
                CHECK.due(at, () -> x.told(r, c, 0, 0), there ? -1 : 0);
                CHECK.due(at, () -> x.told(r, c, 1, 0), there ? 3 : -1);
                CHECK.due(at, () -> x.told(r, c, 2, 0), there ? 2 : 1);
            }
        }
    }

    /** Promise 3: "IndexOutOfBoundsException: there is no such CELL.", before a den of 0 is looked at. */
    private static void setRefusesWhatIsNoCell() {
        for (int n = 1; n <= 6; n++) {
            LimbSolver x = Make.crossed(n);
            x.eliminate(Make.ANY);
            String before = Seen.toldOnly(x, n);
            for (int wrong : beyond(n)) {
                if (wrong >= 0 && wrong < n) {
                    continue;
                }
                String name = "3: size " + n + ", " + wrong;
                CHECK.outside(name + " as row", () -> x.set(wrong, 0, 1, 2));
                CHECK.outside(name + " as column", () -> x.set(0, wrong, 1, 2));
                CHECK.outside(name + " as both", () -> x.set(wrong, wrong, 1, 2));
                CHECK.outside(name + " as row, den 0", () -> x.set(wrong, 0, 1, 0));
                CHECK.outside(name + " as column, den 0", () -> x.set(0, wrong, 1, 0));
            }
            CHECK.due("3: size " + n + ", rank stays", () -> x.rank(), n);
            CHECK.due("3: size " + n + ", cells stay", Seen.toldOnly(x, n), before);
        }
    }

    /** Promise 3: "IllegalArgumentException: den is 0." */
    private static void setRefusesZeroBelow() {
        for (int num : new int[] {0, 1, -1, MIN, MAX}) {
            LimbSolver x = Make.eliminated(Make.row(1, 2, 5), Make.row(3, 4, 6));
            String before = Seen.all(x, 2);
            CHECK.refused("3: " + num + " by 0", () -> x.set(0, 0, num, 0));
            CHECK.refused("3: " + num + " by 0 in the last cell", () -> x.set(1, 1, num, 0));
            CHECK.due("3: " + num + " by 0 changes nothing", Seen.all(x, 2), before);
            CHECK.due("3: " + num + " by 1", () -> x.set(0, 0, num, 1), 11 + limbs(num));
            CHECK.due("3: " + num + " by -1", () -> x.set(0, 0, num, -1), 11 + limbs(num));
        }
    }

    private static int limbs(int num) {
        long amount = Math.abs((long) num);
        return amount == 0 ? 0 : amount < 65536 ? 1 : 2;
    }

    /** Promise 3: "what was eliminated is no more" */
    private static void setEndsWhatWasEliminated() {
        LimbSolver other = Make.eliminated(Make.row(1, 2, 5), Make.row(3, 4, 6));
        other.set(1, 1, 6, 1);
        CHECK.due("3: another value", () -> other.rank(), -1);
        CHECK.due("3: what is eliminated then is new", () -> other.eliminate(Make.ANY), 1);
        LimbSolver same = Make.eliminated(Make.row(1, 2, 5), Make.row(3, 4, 6));
        same.set(1, 1, 8, 2);
        CHECK.due("3: the same value", () -> same.rank(), -1);
        CHECK.early("3: its solution", () -> same.solution(0, 0, 0));
    }

    /** Promise 3: "Answers the METER." */
    private static void setAnswersTheMeter() {
        LimbSolver x = Make.zeros(2);
        CHECK.due("3: 65535", () -> x.set(1, 0, 65535, 1), 7);
        CHECK.due("3: 65536", () -> x.set(1, 0, 65536, 1), 8);
        CHECK.due("3: by 65535", () -> x.set(1, 0, 1, 65535), 7);
        CHECK.due("3: by 65536", () -> x.set(1, 0, 1, 65536), 8);
        CHECK.due("3: by -65536", () -> x.set(1, 0, 1, -65536), 8);
        CHECK.due("3: lowest terms count", () -> x.set(1, 0, 65536, 131072), 7);
        CHECK.due("3: MIN by MAX", () -> x.set(1, 0, MIN, MAX), 9);
        CHECK.due("3: MIN by MIN", () -> x.set(1, 0, MIN, MIN), 7);
        CHECK.due("3: 0 by MIN", () -> x.set(1, 0, 0, MIN), 6);
        CHECK.due("3: as meter()", () -> x.set(0, 0, 70000, 1), 8);
        CHECK.due("3: meter()", () -> x.meter(), 8);
    }

    /** Promise 4: "IndexOutOfBoundsException: there is no such row.", before a den of 0 is looked at. */
    private static void rightRefusesWhatIsNoRow() {
        for (int n = 1; n <= 6; n++) {
            LimbSolver x = Make.crossed(n);
            x.eliminate(Make.ANY);
            String before = Seen.toldOnly(x, n);
            for (int wrong : beyond(n)) {
                if (wrong >= 0 && wrong < n) {
                    continue;
                }
                CHECK.outside("4: size " + n + ", row " + wrong, () -> x.right(wrong, 1, 2));
                CHECK.outside("4: size " + n + ", row " + wrong + ", den 0", () -> x.right(wrong, 1, 0));
            }
            CHECK.due("4: size " + n + ", rank stays", () -> x.rank(), n);
            CHECK.due("4: size " + n + ", right sides stay", Seen.toldOnly(x, n), before);
        }
    }

    /** Promise 4: "IllegalArgumentException: den is 0." */
    private static void rightRefusesZeroBelow() {
        for (int num : new int[] {0, 1, -1, MIN, MAX}) {
            LimbSolver x = Make.eliminated(Make.row(1, 2, 5), Make.row(3, 4, 6));
            String before = Seen.all(x, 2);
            CHECK.refused("4: " + num + " by 0", () -> x.right(0, num, 0));
            CHECK.refused("4: " + num + " by 0 in the last row", () -> x.right(1, num, 0));
            CHECK.due("4: " + num + " by 0 changes nothing", Seen.all(x, 2), before);
            CHECK.due("4: " + num + " by 1", () -> x.right(0, num, 1), 11 + limbs(num));
            CHECK.due("4: " + num + " by -1", () -> x.right(0, num, -1), 11 + limbs(num));
        }
    }

    /** Promise 4: "likewise": "what was eliminated is no more" */
    private static void rightEndsWhatWasEliminated() {
        LimbSolver other = Make.eliminated(Make.row(1, 2, 5), Make.row(2, 4, 10));
        other.right(1, 11, 1);
        CHECK.due("4: another value", () -> other.rank(), -1);
        other.eliminate(Make.ANY);
        CHECK.due("4: what is eliminated then is new", () -> Make.truth(other.isSolvable()), 0);
        LimbSolver same = Make.eliminated(Make.row(1, 2, 5), Make.row(3, 4, 6));
        same.right(1, 12, 2);
        CHECK.due("4: the same value", () -> same.rank(), -1);
        CHECK.early("4: its solution", () -> same.solution(0, 0, 0));
    }

    /** Promise 4: "Answers the METER.", "likewise": in lowest terms */
    private static void rightAnswersTheMeter() {
        LimbSolver x = Make.zeros(2);
        CHECK.due("4: 65535", () -> x.right(1, 65535, 1), 7);
        CHECK.due("4: 65536", () -> x.right(1, 65536, 1), 8);
        CHECK.due("4: by 65536", () -> x.right(1, 1, 65536), 8);
        CHECK.due("4: lowest terms count", () -> x.right(1, 65536, 131072), 7);
        CHECK.due("4: its sign", () -> x.told(1, 2, 0, 0), 1);
        CHECK.due("4: MIN by MAX", () -> x.right(1, MIN, MAX), 9);
        CHECK.due("4: MIN by MIN", () -> x.right(1, MIN, MIN), 7);
        CHECK.due("4: 0 by MIN", () -> x.right(1, 0, MIN), 6);
        CHECK.due("4: beside another", () -> x.right(0, 70000, 1), 8);
        CHECK.due("4: meter()", () -> x.meter(), 8);
    }

    /** Promise 13: "(column N: the RIGHT SIDE)" */
    private static void toldTakesEachCellAndRightSide() {
        for (int n = 1; n <= 6; n++) {
            LimbSolver x = Make.zeros(n);
            for (int i = 0; i < n; i++) {
                for (int j = 0; j < n; j++) {
                    x.set(i, j, 10 * i + j + 1, 1);
                }
                x.right(i, 10 * i + n + 1, 1);
            }
            for (int i = 0; i < n; i++) {
                for (int j = 0; j <= n; j++) {
                    int row = i;
                    int column = j;
                    CHECK.due("13: size " + n + " at " + i + ", " + j, () -> x.told(row, column, 1, 0), 10 * i + j + 1);
                }
            }
        }
    }

    /** Promise 13: "IndexOutOfBoundsException: there is no such CELL" */
    private static void toldRefusesWhatIsNoCell() {
        for (int n = 1; n <= 6; n++) {
            LimbSolver x = Make.crossed(n);
            for (int wrong : beyond(n)) {
                if (wrong < 0 || wrong >= n) {
                    CHECK.outside("13: size " + n + ", row " + wrong, () -> x.told(wrong, 0, 0, 0));
                    CHECK.outside("13: size " + n + ", row " + wrong + ", limbs", () -> x.told(wrong, 0, 2, -1));
                }
                if (wrong < 0 || wrong > n) {
                    CHECK.outside("13: size " + n + ", column " + wrong, () -> x.told(0, wrong, 0, 0));
                    CHECK.outside("13: size " + n + ", column " + wrong + ", limbs", () -> x.told(0, wrong, 2, -1));
                }
            }
        }
    }

    /** Promise 13: "or another which" */
    private static void toldRefusesAnotherWhich() {
        LimbSolver x = Make.solver(Make.row(-5, 1));
        CHECK.due("13: which 0", () -> x.told(0, 0, 0, 0), -1);
        CHECK.due("13: which 1", () -> x.told(0, 0, 1, 0), 5);
        CHECK.due("13: which 2", () -> x.told(0, 0, 2, 0), 1);
        for (int which : new int[] {-1, 3, 4, -2, MIN, MAX}) {
            for (int k : new int[] {-2, -1, 0, 1}) {
                CHECK.outside("13: which " + which + ", k " + k, () -> x.told(0, 0, which, k));
            }
        }
    }

    /** Promise 13: "likewise": "for k = -1 how many LIMBS there are. NONE when there is no such LIMB." */
    private static void toldAnswersNoneBeyondTheLimbs() {
        LimbSolver x = new LimbSolver();
        x.set(0, 0, MIN, 3);
        CHECK.due("13: limbs above", () -> x.told(0, 0, 1, -1), 2);
        CHECK.due("13: limb 0 above", () -> x.told(0, 0, 1, 0), 0);
        CHECK.due("13: limb 1 above", () -> x.told(0, 0, 1, 1), 32768);
        CHECK.due("13: limbs below", () -> x.told(0, 0, 2, -1), 1);
        CHECK.due("13: limb 0 below", () -> x.told(0, 0, 2, 0), 3);
        CHECK.due("13: no limb 1 below", () -> x.told(0, 0, 2, 1), -1);
        for (int k : new int[] {2, 3, -2, -3, MIN, MAX, 1 << 28, 1 << 27, MIN + 1, 84}) {
            CHECK.due("13: no limb " + k + " above", () -> x.told(0, 0, 1, k), -1);
            CHECK.due("13: no limb " + k + " below", () -> x.told(0, 0, 2, k), -1);
        }
    }

    /** Promise 13: "as it was told": eliminated or not */
    private static void toldIsAsItWasTold() {
        LimbSolver x = Make.eliminated(Make.row(0, 2, 5), Make.row(3, 4, 6));
        CHECK.due("13: row 0 behind a change of places", () -> x.told(0, 0, 0, 0), 0);
        CHECK.due("13: row 1 behind a change of places", () -> x.told(1, 0, 1, 0), 3);
        CHECK.due("13: cleared, but told", () -> x.told(1, 1, 1, 0), 4);
        CHECK.due("13: right side", () -> x.told(1, 2, 1, 0), 6);
        CHECK.due("13: asked, and still eliminated", () -> x.rank(), 2);
    }

    /** Promise 15: "as they are told": eliminated, refused or not */
    private static void meterIsOfWhatWasTold() {
        LimbSolver x = Make.solver(Make.row(70000, 1, 1), Make.row(1, 70000, 1));
        CHECK.due("15: not eliminated", () -> x.meter(), 14);
        CHECK.due("15: a state has more", () -> x.eliminate(17), -1);
        CHECK.due("15: behind NONE", () -> x.meter(), 14);
        x.eliminate(18);
        CHECK.due("15: eliminated", () -> x.meter(), 14);
        CHECK.refused("15: refused", () -> x.set(0, 0, 1, 0));
        CHECK.due("15: behind what was refused", () -> x.meter(), 14);
        CHECK.due("15: asked, and still eliminated", () -> x.rank(), 2);
        x.right(0, 1, 65536);
        CHECK.due("15: right sides count", () -> x.meter(), 15);
        x.size(6);
        CHECK.due("15: the least of size 6", () -> x.meter(), 42);
        x.size(1);
        CHECK.due("15: the least of all", () -> x.meter(), 2);
    }
}
