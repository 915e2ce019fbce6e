/** Promises 10 to 12: each sentence that names a boundary case has a test here. */
public final class PartsEdgesTest {
    private static final int MIN = Make.MIN;
    private static final int MAX = Make.MAX;
    private static final int[] NO_PARTS = {-1, 3, 4, -2, MIN, MAX};
    private static final int[] NO_LIMBS = {-2, -3, MIN, MAX, MIN + 1, 1 << 28, 1 << 27, 3 << 28, 1000};
    private static final Check CHECK = new Check();

    private interface Part {
        int ask(int which, int k);
    }

    public static void main(String[] args) {
        solutionTellsSignAndLimbs();
        solutionRefusesWhatIsNoColumn();
        solutionRefusesAnotherWhich();
        solutionNeedsAnElimination();
        solutionNeedsToBeSolvable();
        determinantTellsSignAndLimbs();
        determinantRefusesAnotherWhich();
        determinantNeedsAnElimination();
        determinantNeedsNotBeSolvable();
        cellTellsSignAndLimbs();
        cellTakesEachCellAndRightSide();
        cellRefusesWhatIsNoCell();
        cellRefusesAnotherWhich();
        cellNeedsAnElimination();
        cellNeedsNotBeSolvable();
        CHECK.finish("PartsEdgesTest");
    }

    /** The sign, the limbs from -1 to one behind the last, and k that are no limbs. */
    private static void parts(String name, Part part, int sign, int[] above, int[] below) {
        for (int k : new int[] {0, -1, -2, 1, MIN, MAX}) {
            CHECK.due(name + ": sign, k " + k, () -> part.ask(0, k), sign);
        }
        limbs(name + " above", part, 1, above);
        limbs(name + " below", part, 2, below);
    }

    private static void limbs(String name, Part part, int which, int[] want) {
        CHECK.due(name + ": how many", () -> part.ask(which, -1), want.length);
        for (int k = 0; k < want.length; k++) {
            int at = k;
            CHECK.due(name + ": limb " + k, () -> part.ask(which, at), want[k]);
        }
        CHECK.due(name + ": none behind the last", () -> part.ask(which, want.length), -1);
        for (int k : NO_LIMBS) {
            CHECK.due(name + ": no limb " + k, () -> part.ask(which, k), -1);
        }
    }

    /** Promise 10: "its SIGN (which = 0), LIMB k ..; for k = -1 how many LIMBS there are. NONE .." */
    private static void solutionTellsSignAndLimbs() {
        LimbSolver x = Make.eliminated(Make.row(3, 0, 0, MIN), Make.row(0, MIN, 0, -65535), Make.row(0, 0, 1, 0));
        parts("10: -2^31 by 3", (which, k) -> x.solution(0, which, k), -1, Make.row(0, 32768), Make.row(3));
        parts("10: 65535 by 2^31", (which, k) -> x.solution(1, which, k), 1, Make.row(65535), Make.row(0, 32768));
        parts("10: 0", (which, k) -> x.solution(2, which, k), 0, Make.row(), Make.row(1));
        CHECK.due("10: asked, and still eliminated", () -> x.rank(), 3);
        LimbSolver free = Make.eliminated(Make.row(0, 7, 2), Make.row(0, 0, 0));
        parts("10: no pivot", (which, k) -> free.solution(0, which, k), 0, Make.row(), Make.row(1));
        parts("10: 2 by 7", (which, k) -> free.solution(1, which, k), 1, Make.row(2), Make.row(7));
        for (int n = 1; n <= 6; n++) {
            LimbSolver crossed = Make.crossed(n);
            crossed.eliminate(Make.ANY);
            for (int c = 0; c < n; c++) {
                int column = c;
                CHECK.due("10: size " + n + ", x of " + c, () -> crossed.solution(column, 1, 0), n - c);
            }
        }
    }

    /** Promise 10: "IndexOutOfBoundsException: there is no such column", the one named first. */
    private static void solutionRefusesWhatIsNoColumn() {
        for (int n = 1; n <= 6; n++) {
            LimbSolver told = Make.crossed(n);
            LimbSolver done = Make.crossed(n);
            done.eliminate(Make.ANY);
            LimbSolver against = Make.zeros(n);
            against.right(n - 1, 1, 1);
            against.eliminate(Make.ANY);
            for (int wrong : ToldEdgesTest.beyond(n)) {
                if (wrong >= 0 && wrong < n) {
                    continue;
                }
                String name = "10: size " + n + ", column " + wrong;
                CHECK.outside(name, () -> done.solution(wrong, 0, 0));
                CHECK.outside(name + ", limbs", () -> done.solution(wrong, 2, -1));
                CHECK.outside(name + ", no limb", () -> done.solution(wrong, 1, -2));
                CHECK.outside(name + ", not eliminated", () -> told.solution(wrong, 0, 0));
                CHECK.outside(name + ", not solvable", () -> against.solution(wrong, 0, 0));
            }
        }
    }

    /** Promise 10: "or another which", the one named first. */
    private static void solutionRefusesAnotherWhich() {
        LimbSolver told = Make.solver(Make.row(3, 1));
        LimbSolver done = Make.eliminated(Make.row(3, 1));
        LimbSolver against = Make.eliminated(Make.row(0, 1));
        for (int which : NO_PARTS) {
            for (int k : new int[] {-2, -1, 0, 1}) {
                String name = "10: which " + which + ", k " + k;
                CHECK.outside(name, () -> done.solution(0, which, k));
                CHECK.outside(name + ", not eliminated", () -> told.solution(0, which, k));
                CHECK.outside(name + ", not solvable", () -> against.solution(0, which, k));
            }
        }
    }

    /** Promise 10: "IllegalStateException: it is not eliminated" */
    private static void solutionNeedsAnElimination() {
        LimbSolver[] all = EliminationEdgesTest.notEliminated();
        for (int i = 0; i < all.length; i++) {
            LimbSolver x = all[i];
            String name = "10: not eliminated, " + EliminationEdgesTest.REASONS[i];
            for (int which = 0; which <= 2; which++) {
                int part = which;
                CHECK.early(name + ", which " + which, () -> x.solution(0, part, 0));
                CHECK.early(name + ", last column, which " + which, () -> x.solution(1, part, -1));
                CHECK.early(name + ", no limb, which " + which, () -> x.solution(0, part, -2));
            }
        }
    }

    /** Promise 10: "or not SOLVABLE" */
    private static void solutionNeedsToBeSolvable() {
        LimbSolver x = Make.eliminated(Make.row(1, 2, 5), Make.row(2, 4, 11));
        for (int which = 0; which <= 2; which++) {
            int part = which;
            CHECK.early("10: not solvable, which " + which, () -> x.solution(0, part, 0));
            CHECK.early("10: not solvable, no pivot, which " + which, () -> x.solution(1, part, -1));
        }
        x.right(1, 10, 1);
        CHECK.early("10: told anew", () -> x.solution(0, 1, 0));
        x.eliminate(Make.ANY);
        CHECK.due("10: solvable now", () -> x.solution(0, 1, 0), 5);
    }

    /** Promise 11: "likewise" */
    private static void determinantTellsSignAndLimbs() {
        LimbSolver x = Make.zeros(2);
        x.set(0, 1, MIN, 1);
        x.set(1, 0, -65537, 6);
        x.eliminate(Make.ANY);
        // Twice below 0 and one change of places; 2^31 * 65537 by 6 is 2^30 * 65537 by 3.
        parts("11: by 3", (which, k) -> x.determinant(which, k), -1, Make.row(0, 16384, 16384), Make.row(3));
        LimbSolver zero = Make.eliminated(Make.row(0, 0));
        parts("11: 0", (which, k) -> zero.determinant(which, k), 0, Make.row(), Make.row(1));
        LimbSolver least = Make.diagonalBelow(MIN, -1);
        parts("11: 1 by 2^31", (which, k) -> least.determinant(which, k), 1, Make.row(1), Make.row(0, 32768));
        CHECK.due("11: asked, and still eliminated", () -> least.rank(), 2);
    }

    /** Promise 11: "IndexOutOfBoundsException: another which.", the one named first. */
    private static void determinantRefusesAnotherWhich() {
        LimbSolver told = Make.solver(Make.row(3, 1));
        LimbSolver done = Make.eliminated(Make.row(3, 1));
        for (int which : NO_PARTS) {
            for (int k : new int[] {-2, -1, 0, 1}) {
                CHECK.outside("11: which " + which + ", k " + k, () -> done.determinant(which, k));
                CHECK.outside("11: which " + which + ", k " + k + ", not eliminated", () -> told.determinant(which, k));
            }
        }
    }

    /** Promise 11: "IllegalStateException: it is not eliminated." */
    private static void determinantNeedsAnElimination() {
        LimbSolver[] all = EliminationEdgesTest.notEliminated();
        for (int i = 0; i < all.length; i++) {
            LimbSolver x = all[i];
            String name = "11: not eliminated, " + EliminationEdgesTest.REASONS[i];
            for (int which = 0; which <= 2; which++) {
                int part = which;
                CHECK.early(name + ", which " + which, () -> x.determinant(part, 0));
                CHECK.early(name + ", no limb, which " + which, () -> x.determinant(part, -2));
            }
        }
    }

    /** Promise 11 names no other state: one that is not solvable has its determinant. */
    private static void determinantNeedsNotBeSolvable() {
        LimbSolver x = Make.eliminated(Make.row(1, 2, 5), Make.row(2, 4, 11));
        parts("11: not solvable", (which, k) -> x.determinant(which, k), 0, Make.row(), Make.row(1));
    }

    /** Promise 12: "likewise" */
    private static void cellTellsSignAndLimbs() {
        LimbSolver x = Make.eliminated(Make.row(3, 65536, 65537), Make.row(65536, 0, MAX));
        // Row 1 is 0, -2^32 by 3, (3 * (2^31 - 1) - 65536 * 65537) by 3 behind column 0.
        parts("12: cleared", (which, k) -> x.cell(1, 0, which, k), 0, Make.row(), Make.row(1));
        parts("12: pivot", (which, k) -> x.cell(1, 1, which, k), -1, Make.row(0, 0, 1), Make.row(3));
        parts("12: first pivot", (which, k) -> x.cell(0, 0, which, k), 1, Make.row(3), Make.row(1));
        // 3 * (2^31 - 1) - 2^32 - 65536 = 2^31 - 65539, which is no multiple of 3.
        parts("12: right side", (which, k) -> x.cell(1, 2, which, k), 1, Make.row(65533, 32766), Make.row(3));
        CHECK.due("12: asked, and still eliminated", () -> x.rank(), 2);
    }

    /** Promise 12: "(column N: the RIGHT SIDE)" */
    private static void cellTakesEachCellAndRightSide() {
        for (int n = 1; n <= 6; n++) {
            int size = n;
            LimbSolver x = Make.crossed(n);
            x.eliminate(Make.ANY);
            for (int i = 0; i < n; i++) {
                int row = i;
                for (int j = 0; j < n; j++) {
                    int column = j;
                    CHECK.due("12: size " + n + " at " + i + ", " + j, () -> x.cell(row, column, 0, 0), i == j ? 1 : 0);
                }
                CHECK.due("12: size " + n + ", right side " + i, () -> x.cell(row, size, 1, 0), n - i);
            }
        }
    }

    /** Promise 12: "IndexOutOfBoundsException: there is no such CELL", the one named first. */
    private static void cellRefusesWhatIsNoCell() {
        for (int n = 1; n <= 6; n++) {
            LimbSolver told = Make.crossed(n);
            LimbSolver done = Make.crossed(n);
            done.eliminate(Make.ANY);
            for (int wrong : ToldEdgesTest.beyond(n)) {
                String name = "12: size " + n + ", " + wrong;
                if (wrong < 0 || wrong >= n) {
                    CHECK.outside(name + " as row", () -> done.cell(wrong, 0, 0, 0));
                    CHECK.outside(name + " as row, limbs", () -> done.cell(wrong, 0, 2, -1));
                    CHECK.outside(name + " as row, not eliminated", () -> told.cell(wrong, 0, 0, 0));
                }
                if (wrong < 0 || wrong > n) {
                    CHECK.outside(name + " as column", () -> done.cell(0, wrong, 0, 0));
                    CHECK.outside(name + " as column, limbs", () -> done.cell(0, wrong, 2, -1));
                    CHECK.outside(name + " as column, not eliminated", () -> told.cell(0, wrong, 0, 0));
                }
            }
        }
    }

    /** Promise 12: "or another which", the one named first. */
    private static void cellRefusesAnotherWhich() {
        LimbSolver told = Make.solver(Make.row(3, 1));
        LimbSolver done = Make.eliminated(Make.row(3, 1));
        for (int which : NO_PARTS) {
            for (int k : new int[] {-2, -1, 0, 1}) {
                String name = "12: which " + which + ", k " + k;
                CHECK.outside(name, () -> done.cell(0, 0, which, k));
                CHECK.outside(name + ", right side", () -> done.cell(0, 1, which, k));
                CHECK.outside(name + ", not eliminated", () -> told.cell(0, 0, which, k));
            }
        }
    }

    /** Promise 12: "IllegalStateException: it is not eliminated." */
    private static void cellNeedsAnElimination() {
        LimbSolver[] all = EliminationEdgesTest.notEliminated();
        for (int i = 0; i < all.length; i++) {
            LimbSolver x = all[i];
            String name = "12: not eliminated, " + EliminationEdgesTest.REASONS[i];
            for (int which = 0; which <= 2; which++) {
                int part = which;
                CHECK.early(name + ", which " + which, () -> x.cell(0, 0, part, 0));
                CHECK.early(name + ", last right side, which " + which, () -> x.cell(1, 2, part, -1));
                CHECK.early(name + ", no limb, which " + which, () -> x.cell(0, 0, part, -2));
            }
        }
    }

    /** Promise 12 names no other state: one that is not solvable has its cells. */
    private static void cellNeedsNotBeSolvable() {
        LimbSolver x = Make.eliminated(Make.row(1, 2, 5), Make.row(2, 4, 11));
        parts("12: not solvable", (which, k) -> x.cell(1, 2, which, k), 1, Make.row(1), Make.row(1));
        parts("12: not solvable, 0", (which, k) -> x.cell(1, 1, which, k), 0, Make.row(), Make.row(1));
    }
}
