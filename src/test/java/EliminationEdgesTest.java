/** Promises 5 to 9 and 16: each sentence that names a boundary case has a test here. */
public final class EliminationEdgesTest {
    private static final int MIN = Make.MIN;
    private static final int MAX = Make.MAX;
    private static final Check CHECK = new Check();

    // Their states have 18, 12, 12 limbs; 12, 13, 11; and 14, 17, 18.
    private static final int[][] GREATEST_AT_FIRST = {{65536, 65536, 65536}, {65536, 65536, 65536}};
    private static final int[][] GREATEST_BETWEEN = {{65539, 65536, 0}, {65535, 1, 0}};
    private static final int[][] GREATEST_AT_LAST = {{70000, 1, 1}, {1, 70000, 1}};

    public static void main(String[] args) {
        capFromZeroTo40000();
        capRefusesTheOthers();
        eliminateAnswersTheRank();
        noneWhenAStateIsAboveTheCap();
        noneEndsWhatWasEliminated();
        noneLeavesWhatWasTold();
        aRefusedCapLeavesWhatWasEliminated();
        eliminatedAgain();
        rankIsNoneUnlessEliminated();
        isSolvableNeedsAnElimination();
        mostNeedsAnElimination();
        mostIsTheGreatestOfTheStates();
        pivotOfEachColumn();
        pivotIsNoneWithoutOne();
        pivotIsBehindAllChangesOfPlaces();
        pivotRefusesWhatIsNoColumn();
        pivotNeedsAnElimination();
        isRightOfEachRow();
        isRightRefusesWhatIsNoRow();
        isRightNeedsAnEliminationThatIsSolvable();
        CHECK.finish("EliminationEdgesTest");
    }

    /** Objects that are not eliminated, each for another reason; all have 2 rows. */
    static LimbSolver[] notEliminated() {
        LimbSolver[] all = new LimbSolver[6];
        for (int i = 1; i < all.length; i++) {
            all[i] = Make.eliminated(Make.row(1, 2, 5), Make.row(3, 4, 6));
        }
        all[0] = Make.solver(Make.row(1, 2, 5), Make.row(3, 4, 6));
        all[1].size(2);
        all[2].set(1, 1, 4, 1);
        all[3].right(1, 6, 1);
        all[4].eliminate(0);
        all[5] = Make.eliminated(GREATEST_AT_LAST);
        all[5].eliminate(17);
        return all;
    }

    static final String[] REASONS = {"never", "size", "set", "right", "a cap of 0", "a cap below the most"};

    /** Promise 5: "cap is not 0 .. 40000": the ends are allowed. */
    private static void capFromZeroTo40000() {
        LimbSolver x = new LimbSolver();
        CHECK.due("5: cap 0", () -> x.eliminate(0), -1);
        CHECK.due("5: cap 1", () -> x.eliminate(1), -1);
        CHECK.due("5: cap 2, the meter", () -> x.eliminate(2), 0);
        CHECK.due("5: cap 39999", () -> x.eliminate(39999), 0);
        CHECK.due("5: cap 40000", () -> x.eliminate(40000), 0);
    }

    /** Promise 5: "IllegalArgumentException: cap is not 0 .. 40000." */
    private static void capRefusesTheOthers() {
        LimbSolver told = Make.solver(GREATEST_AT_LAST);
        LimbSolver done = Make.eliminated(GREATEST_AT_LAST);
        for (int cap : new int[] {-1, 40001, -2, 40002, MIN, MAX, 65536, 1 << 30, -40000}) {
            CHECK.refused("5: cap " + cap, () -> told.eliminate(cap));
            CHECK.refused("5: cap " + cap + ", eliminated", () -> done.eliminate(cap));
        }
        CHECK.due("5: still not eliminated", () -> told.rank(), -1);
        CHECK.due("5: still eliminated", () -> done.rank(), 2);
    }

    /** Promise 5: "Answers the RANK", from 0 to N. */
    private static void eliminateAnswersTheRank() {
        for (int n = 1; n <= 6; n++) {
            for (int rank = 0; rank <= n; rank++) {
                LimbSolver x = withRank(n, rank);
                CHECK.due("5: rank " + rank + " of " + n, () -> x.eliminate(Make.ANY), rank);
                CHECK.due("6: rank " + rank + " of " + n, () -> x.rank(), rank);
            }
        }
    }

    /** The last columns have pivots, all from rows below. */
    private static LimbSolver withRank(int n, int rank) {
        LimbSolver x = Make.zeros(n);
        for (int i = 0; i < rank; i++) {
            x.set(n - 1 - i, n - rank + i, i + 2, 1);
            x.right(n - 1 - i, 3 * i - 5, 1);
        }
        return x;
    }

    /** Promise 5: "NONE when the METER of a STATE is above cap" */
    private static void noneWhenAStateIsAboveTheCap() {
        around("the first state", GREATEST_AT_FIRST, 18, 1);
        around("a state between", GREATEST_BETWEEN, 13, 2);
        around("the last state", GREATEST_AT_LAST, 18, 2);
        around("zeros", new int[][] {{0, 0, 0}, {0, 0, 0}}, 6, 0);
    }

    /** Each cap on a new object, and all on one. */
    private static void around(String name, int[][] rows, int most, int rank) {
        LimbSolver one = Make.solver(rows);
        for (int cap : new int[] {most, most - 1, most + 1, most - 1, most, 0, Make.ANY}) {
            int want = cap < most ? -1 : rank;
            LimbSolver x = Make.solver(rows);
            CHECK.due("5: " + name + ", cap " + cap + " of " + most, () -> x.eliminate(cap), want);
            CHECK.due("5: rank behind it", () -> x.rank(), want);
            CHECK.due("5: " + name + ", cap " + cap + " on one object", () -> one.eliminate(cap), want);
            CHECK.due("5: rank behind it", () -> one.rank(), want);
        }
    }

    /** Promise 5: "(what was eliminated before is no more then)" */
    private static void noneEndsWhatWasEliminated() {
        for (int cap : new int[] {0, 13, 14, 16, 17}) {
            LimbSolver x = Make.eliminated(GREATEST_AT_LAST);
            CHECK.due("5: cap " + cap, () -> x.eliminate(cap), -1);
            CHECK.due("5: no rank behind cap " + cap, () -> x.rank(), -1);
            CHECK.early("5: not solvable or not", () -> Make.truth(x.isSolvable()));
            CHECK.early("5: no most", () -> x.most());
            CHECK.early("5: no pivot", () -> x.pivot(0));
            CHECK.early("5: no solution", () -> x.solution(0, 0, 0));
            CHECK.early("5: no determinant", () -> x.determinant(0, 0));
            CHECK.early("5: no cell", () -> x.cell(0, 0, 0, 0));
            CHECK.early("5: not right or wrong", () -> Make.truth(x.isRight(0)));
        }
    }

    /** "a call that .. answers NONE, changes nothing" but for what promise 5 says. */
    private static void noneLeavesWhatWasTold() {
        for (int cap : new int[] {0, 13, 14, 16, 17}) {
            LimbSolver x = Make.solver(GREATEST_AT_LAST);
            String before = Seen.all(x, 2);
            x.eliminate(cap);
            CHECK.due("5: cap " + cap + " changes nothing", Seen.all(x, 2), before);
            CHECK.due("5: enough behind cap " + cap, () -> x.eliminate(18), 2);
            String done = Seen.all(Make.eliminated(GREATEST_AT_LAST), 2);
            CHECK.due("5: and all is as without it", Seen.all(x, 2), done);
        }
    }

    private static void aRefusedCapLeavesWhatWasEliminated() {
        for (int cap : new int[] {-1, 40001, MIN, MAX}) {
            LimbSolver x = Make.eliminated(GREATEST_AT_LAST);
            String before = Seen.all(x, 2);
            CHECK.refused("5: cap " + cap, () -> x.eliminate(cap));
            CHECK.due("5: cap " + cap + " changes nothing", Seen.all(x, 2), before);
        }
    }

    /** What was eliminated may be eliminated again, as it was told or told anew. */
    private static void eliminatedAgain() {
        LimbSolver x = Make.eliminated(GREATEST_BETWEEN);
        String first = Seen.all(x, 2);
        CHECK.due("5: again", () -> x.eliminate(13), 2);
        CHECK.due("5: again, all the same", Seen.all(x, 2), first);
        LimbSolver anew = Make.eliminated(Make.row(9, 8, 7, 1), Make.row(0, 6, 5, 2), Make.row(3, 1, 1, 3));
        anew.size(2);
        for (int i = 0; i < 2; i++) {
            anew.set(i, 0, GREATEST_BETWEEN[i][0], 1);
            anew.set(i, 1, GREATEST_BETWEEN[i][1], 1);
        }
        CHECK.due("5: told anew", () -> anew.eliminate(13), 2);
        CHECK.due("5: told anew, as a new object", Seen.all(anew, 2), first);
    }

    /** Promise 6: "NONE when it is not eliminated." */
    private static void rankIsNoneUnlessEliminated() {
        CHECK.due("6: a new object", () -> new LimbSolver().rank(), -1);
        LimbSolver[] all = notEliminated();
        for (int i = 0; i < all.length; i++) {
            LimbSolver x = all[i];
            CHECK.due("6: not eliminated, " + REASONS[i], () -> x.rank(), -1);
        }
        LimbSolver zero = Make.eliminated(Make.row(0, 0));
        CHECK.due("6: rank 0 is not NONE", () -> zero.rank(), 0);
    }

    /** Promise 7: "IllegalStateException: it is not eliminated." */
    private static void isSolvableNeedsAnElimination() {
        CHECK.early("7: a new object", () -> Make.truth(new LimbSolver().isSolvable()));
        LimbSolver[] all = notEliminated();
        for (int i = 0; i < all.length; i++) {
            LimbSolver x = all[i];
            CHECK.early("7: not eliminated, " + REASONS[i], () -> Make.truth(x.isSolvable()));
        }
        LimbSolver zero = Make.eliminated(Make.row(0, 0));
        CHECK.due("7: zeros", () -> Make.truth(zero.isSolvable()), 1);
        LimbSolver least = Make.zeros(6);
        least.right(5, 1, MIN);
        least.eliminate(Make.ANY);
        CHECK.due("7: the last of six right sides is a little below 0", () -> Make.truth(least.isSolvable()), 0);
    }

    /** Promise 8: "IllegalStateException: it is not eliminated." */
    private static void mostNeedsAnElimination() {
        CHECK.early("8: a new object", () -> new LimbSolver().most());
        LimbSolver[] all = notEliminated();
        for (int i = 0; i < all.length; i++) {
            LimbSolver x = all[i];
            CHECK.early("8: not eliminated, " + REASONS[i], () -> x.most());
        }
    }

    /** Promise 8: "The greatest METER of the STATES." */
    private static void mostIsTheGreatestOfTheStates() {
        CHECK.due("8: the first state", () -> Make.eliminated(GREATEST_AT_FIRST).most(), 18);
        CHECK.due("8: a state between", () -> Make.eliminated(GREATEST_BETWEEN).most(), 13);
        CHECK.due("8: the last state", () -> Make.eliminated(GREATEST_AT_LAST).most(), 18);
        CHECK.due("8: one cell", () -> Make.eliminated(Make.row(MIN, MAX)).most(), 6);
        for (int n = 1; n <= 6; n++) {
            LimbSolver x = Make.zeros(n);
            x.eliminate(n * (n + 1));
            CHECK.due("8: zeros of size " + n, () -> x.most(), n * (n + 1));
        }
        LimbSolver capped = Make.solver(GREATEST_AT_LAST);
        capped.eliminate(30);
        CHECK.due("8: not the cap", () -> capped.most(), 18);
        capped.eliminate(18);
        CHECK.due("8: not more for being asked again", () -> capped.most(), 18);
        capped.size(1);
        capped.eliminate(2);
        CHECK.due("8: not that of an elimination before", () -> capped.most(), 2);
    }

    /** Promise 9: "The row from which x of a column comes" */
    private static void pivotOfEachColumn() {
        for (int n = 1; n <= 6; n++) {
            LimbSolver x = Make.crossed(n);
            x.eliminate(Make.ANY);
            for (int c = 0; c < n; c++) {
                int column = c;
                CHECK.due("9: size " + n + ", column " + c, () -> x.pivot(column), c);
            }
        }
    }

    /** Promise 9: "NONE when it has no PIVOT." */
    private static void pivotIsNoneWithoutOne() {
        for (int n = 1; n <= 6; n++) {
            for (int rank = 0; rank <= n; rank++) {
                LimbSolver x = withRank(n, rank);
                x.eliminate(Make.ANY);
                int free = n - rank;
                for (int c = 0; c < n; c++) {
                    int column = c;
                    CHECK.due("9: rank " + rank + " of " + n + ", column " + c, () -> x.pivot(column),
                            c < free ? -1 : c - free);
                }
                CHECK.due("9: asked, and still eliminated", () -> x.rank(), rank);
            }
        }
        LimbSolver between = Make.eliminated(Make.row(1, 2, 0, 1), Make.row(2, 4, 1, 2), Make.row(0, 0, 0, 3));
        CHECK.due("9: before one without", () -> between.pivot(0), 0);
        CHECK.due("9: one without", () -> between.pivot(1), -1);
        CHECK.due("9: behind one without, not solvable", () -> between.pivot(2), 1);
    }

    /** Promise 9: "(behind all changes of places)" */
    private static void pivotIsBehindAllChangesOfPlaces() {
        LimbSolver x = Make.eliminated(Make.row(0, 0, 4, 1), Make.row(0, 3, 1, 2), Make.row(2, 1, 1, 3));
        for (int c = 0; c < 3; c++) {
            int column = c;
            CHECK.due("9: column " + c, () -> x.pivot(column), c);
            CHECK.due("9: its cell is the pivot", () -> x.cell(column, column, 1, 0), c + 2);
        }
    }

    /** Promise 9: "IndexOutOfBoundsException: there is no such column.", the one named first. */
    private static void pivotRefusesWhatIsNoColumn() {
        for (int n = 1; n <= 6; n++) {
            LimbSolver told = Make.crossed(n);
            LimbSolver done = Make.crossed(n);
            done.eliminate(Make.ANY);
            for (int wrong : ToldEdgesTest.beyond(n)) {
                if (wrong < 0 || wrong >= n) {
                    CHECK.outside("9: size " + n + ", column " + wrong, () -> done.pivot(wrong));
                    CHECK.outside("9: size " + n + ", column " + wrong + ", not eliminated", () -> told.pivot(wrong));
                }
            }
        }
    }

    /** Promise 9: "IllegalStateException: it is not eliminated." */
    private static void pivotNeedsAnElimination() {
        LimbSolver[] all = notEliminated();
        for (int i = 0; i < all.length; i++) {
            LimbSolver x = all[i];
            CHECK.early("9: not eliminated, " + REASONS[i], () -> x.pivot(0));
            CHECK.early("9: not eliminated, " + REASONS[i] + ", last column", () -> x.pivot(1));
            CHECK.outside("9: not eliminated, " + REASONS[i] + ", no column", () -> x.pivot(2));
        }
    }

    /** Promise 16: "whether its CELLS times these are its RIGHT SIDE, as both were told" */
    private static void isRightOfEachRow() {
        for (int n = 1; n <= 6; n++) {
            for (int rank = 0; rank <= n; rank++) {
                LimbSolver x = withRank(n, rank);
                x.eliminate(Make.ANY);
                for (int i = 0; i < n; i++) {
                    int row = i;
                    CHECK.due("16: rank " + rank + " of " + n + ", row " + i, () -> Make.truth(x.isRight(row)), 1);
                }
                CHECK.due("16: asked, and still eliminated", () -> x.rank(), rank);
            }
        }
        LimbSolver extreme = Make.zeros(2);
        extreme.set(0, 1, MIN, MAX);
        extreme.set(1, 0, MAX, MIN);
        extreme.set(1, 1, 1, MIN);
        extreme.right(0, MIN, MAX - 1);
        extreme.right(1, MAX, 3);
        extreme.eliminate(Make.ANY);
        CHECK.due("16: MIN and MAX, row 0", () -> Make.truth(extreme.isRight(0)), 1);
        CHECK.due("16: MIN and MAX, row 1", () -> Make.truth(extreme.isRight(1)), 1);
    }

    /** Promise 16: "IndexOutOfBoundsException: there is no such row.", the one named first. */
    private static void isRightRefusesWhatIsNoRow() {
        for (int n = 1; n <= 6; n++) {
            LimbSolver told = Make.crossed(n);
            LimbSolver done = Make.crossed(n);
            done.eliminate(Make.ANY);
            LimbSolver against = Make.zeros(n);
            against.right(0, 1, 1);
            against.eliminate(Make.ANY);
            for (int wrong : ToldEdgesTest.beyond(n)) {
                if (wrong >= 0 && wrong < n) {
                    continue;
                }
                String name = "16: size " + n + ", row " + wrong;
                CHECK.outside(name, () -> Make.truth(done.isRight(wrong)));
                CHECK.outside(name + ", not eliminated", () -> Make.truth(told.isRight(wrong)));
                CHECK.outside(name + ", not solvable", () -> Make.truth(against.isRight(wrong)));
            }
        }
    }

    /** Promise 16: "IllegalStateException: it is not eliminated, or not SOLVABLE." */
    private static void isRightNeedsAnEliminationThatIsSolvable() {
        LimbSolver[] all = notEliminated();
        for (int i = 0; i < all.length; i++) {
            LimbSolver x = all[i];
            CHECK.early("16: not eliminated, " + REASONS[i], () -> Make.truth(x.isRight(0)));
            CHECK.early("16: not eliminated, " + REASONS[i] + ", last row", () -> Make.truth(x.isRight(1)));
        }
        LimbSolver against = Make.eliminated(Make.row(1, 2, 5), Make.row(2, 4, 11));
        CHECK.early("16: not solvable, a row that could be right", () -> Make.truth(against.isRight(0)));
        CHECK.early("16: not solvable", () -> Make.truth(against.isRight(1)));
        against.right(1, 10, 1);
        CHECK.early("16: told anew", () -> Make.truth(against.isRight(0)));
        against.eliminate(Make.ANY);
        CHECK.due("16: solvable now", () -> Make.truth(against.isRight(0)), 1);
    }
}
