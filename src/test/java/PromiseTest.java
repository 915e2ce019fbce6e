/** Each promise by its number: ordinary inputs, the edges that the document names, wrong inputs. */
public final class PromiseTest {
    private static final int MIN = Make.MIN;
    private static final int MAX = Make.MAX;
    private static final Check CHECK = new Check();

    public static void main(String[] args) {
        promise1NewObject();
        promise2Size();
        promise3Set();
        promise4Right();
        promise5Eliminate();
        promise6Rank();
        promise7IsSolvable();
        promise8Most();
        promise9Pivot();
        promise10Solution();
        promise11Determinant();
        promise12Cell();
        promise13Told();
        promise14Modulo();
        promise15Meter();
        promise16IsRight();
        CHECK.finish("PromiseTest");
    }

    private static void promise1NewObject() {
        LimbSolver x = new LimbSolver();
        CHECK.due("1: a new meter", () -> x.meter(), 2);
        CHECK.due("1: a new cell's sign", () -> x.told(0, 0, 0, 0), 0);
        CHECK.due("1: a new right side's denominator", () -> x.told(0, 1, 2, 0), 1);
        CHECK.outside("1: row 1", () -> x.told(1, 0, 0, 0));
        CHECK.outside("1: column 2", () -> x.told(0, 2, 0, 0));
        CHECK.due("1: not eliminated", () -> x.rank(), -1);
    }

    private static void promise2Size() {
        LimbSolver x = Make.solver(Make.row(1, 2, 3), Make.row(4, 5, 6));
        x.eliminate(40000);
        CHECK.refused("2: size 0", () -> Make.resize(x, 0));
        CHECK.refused("2: size 7", () -> Make.resize(x, 7));
        CHECK.refused("2: size -1", () -> Make.resize(x, -1));
        CHECK.refused("2: size MIN", () -> Make.resize(x, MIN));
        CHECK.refused("2: size MAX", () -> Make.resize(x, MAX));
        CHECK.due("2: a refused size changes no rank", () -> x.rank(), 2);
        CHECK.due("2: a refused size changes no cell", () -> x.told(1, 0, 1, 0), 4);
        for (int n = 6; n >= 1; n--) {
            int size = n;
            x.right(0, 5, 3);
            CHECK.due("2: size " + n, () -> Make.resize(x, size), 0);
            CHECK.due("2: all 0 behind size " + n, () -> x.meter(), n * (n + 1));
            CHECK.due("2: last right side of size " + n, () -> x.told(size - 1, size, 0, 0), 0);
            CHECK.outside("2: row beyond size " + n, () -> x.told(size, 0, 0, 0));
            CHECK.outside("2: column beyond size " + n, () -> x.told(0, size + 1, 0, 0));
            CHECK.due("2: not eliminated behind size " + n, () -> x.rank(), -1);
            CHECK.due("2: rank of size " + n, () -> x.eliminate(40000), 0);
        }
        Make.resize(x, 1);
        CHECK.due("2: the same size, too, is not eliminated", () -> x.rank(), -1);
    }

    private static void promise3Set() {
        LimbSolver x = new LimbSolver();
        x.size(2);
        CHECK.due("3: 6 by 4", () -> x.set(1, 0, 6, 4), 7);
        CHECK.due("3: its numerator", () -> x.told(1, 0, 1, 0), 3);
        CHECK.due("3: its denominator", () -> x.told(1, 0, 2, 0), 2);
        CHECK.due("3: 3 by -6", () -> x.set(0, 1, 3, -6), 8);
        CHECK.due("3: its sign", () -> x.told(0, 1, 0, 0), -1);
        CHECK.due("3: -3 by -6", () -> x.set(0, 1, -3, -6), 8);
        CHECK.due("3: its sign", () -> x.told(0, 1, 0, 0), 1);
        CHECK.due("3: MIN by 1", () -> x.set(0, 0, MIN, 1), 10);
        CHECK.due("3: MIN by MAX", () -> x.set(0, 0, MIN, MAX), 11);
        CHECK.due("3: MAX by MIN", () -> x.set(0, 0, MAX, MIN), 11);
        CHECK.due("3: its denominator's upper limb", () -> x.told(0, 0, 2, 1), 32768);
        CHECK.due("3: MIN by MIN", () -> x.set(0, 0, MIN, MIN), 9);
        CHECK.due("3: 0 by MIN", () -> x.set(0, 0, 0, MIN), 8);
        CHECK.due("3: 65535", () -> x.set(0, 0, 65535, 1), 9);
        CHECK.due("3: 65536", () -> x.set(0, 0, 65536, 1), 10);
        CHECK.due("3: back to 0", () -> x.set(0, 0, 0, 1), 8);
        x.eliminate(40000);
        CHECK.outside("3: row 2", () -> x.set(2, 0, 1, 1));
        CHECK.outside("3: row -1", () -> x.set(-1, 0, 1, 1));
        CHECK.outside("3: column 2 is no cell", () -> x.set(0, 2, 1, 1));
        CHECK.outside("3: column -1", () -> x.set(0, -1, 1, 1));
        CHECK.outside("3: the index goes first", () -> x.set(0, MIN, 1, 0));
        CHECK.refused("3: by 0", () -> x.set(0, 0, 1, 0));
        CHECK.due("3: what throws changes nothing", () -> x.rank(), 2);
        x.set(0, 0, 0, 1);
        CHECK.due("3: the same value, too, ends what was eliminated", () -> x.rank(), -1);
    }

    private static void promise4Right() {
        LimbSolver x = new LimbSolver();
        x.size(2);
        CHECK.due("4: -10 by 4", () -> x.right(1, -10, 4), 7);
        CHECK.due("4: its sign", () -> x.told(1, 2, 0, 0), -1);
        CHECK.due("4: its numerator", () -> x.told(1, 2, 1, 0), 5);
        CHECK.due("4: its denominator", () -> x.told(1, 2, 2, 0), 2);
        CHECK.due("4: MIN by 3", () -> x.right(0, MIN, 3), 9);
        CHECK.due("4: 0 by 7", () -> x.right(0, 0, 7), 7);
        CHECK.due("4: its denominator", () -> x.told(0, 2, 2, 0), 1);
        x.eliminate(40000);
        CHECK.outside("4: row 2", () -> x.right(2, 1, 1));
        CHECK.outside("4: row -1 goes before by 0", () -> x.right(-1, 1, 0));
        CHECK.refused("4: by 0", () -> x.right(0, 1, 0));
        CHECK.due("4: what throws changes nothing", () -> x.rank(), 0);
        x.right(0, 0, 1);
        CHECK.due("4: ends what was eliminated", () -> x.rank(), -1);
    }

    private static void promise5Eliminate() {
        LimbSolver x = Make.solver(Make.row(70000, 1, 1), Make.row(1, 70000, 1));
        CHECK.due("5: rank", () -> x.eliminate(40000), 2);
        int most = x.most();
        CHECK.due("5: the cells grow", () -> Make.truth(most > x.meter()), 1);
        CHECK.due("5: a cap at the most", () -> x.eliminate(most), 2);
        CHECK.refused("5: cap -1", () -> x.eliminate(-1));
        CHECK.refused("5: cap 40001", () -> x.eliminate(40001));
        CHECK.due("5: what throws changes nothing", () -> x.rank(), 2);
        CHECK.due("5: a cap below the most", () -> x.eliminate(most - 1), -1);
        CHECK.due("5: what was eliminated is no more", () -> x.rank(), -1);
        CHECK.early("5: nor is its most", () -> x.most());
        CHECK.due("5: once more", () -> x.eliminate(most), 2);
        CHECK.due("5: a cap below the first state", () -> x.eliminate(x.meter() - 1), -1);
        CHECK.due("5: cap 0", () -> x.eliminate(0), -1);
        CHECK.due("5: what was told stays", () -> x.told(0, 0, 1, 0), 70000 - 65536);
        LimbSolver zero = new LimbSolver();
        CHECK.due("5: zeros, cap 2", () -> zero.eliminate(2), 0);
        CHECK.due("5: zeros, cap 1", () -> zero.eliminate(1), -1);
    }

    private static void promise6Rank() {
        LimbSolver x = Make.solver(Make.row(0, 1, 2, 3), Make.row(0, 2, 4, 6), Make.row(0, 0, 5, 1));
        CHECK.due("6: not eliminated", () -> x.rank(), -1);
        x.eliminate(40000);
        CHECK.due("6: rank 2 of 3", () -> x.rank(), 2);
        x.set(2, 2, 0, 1);
        CHECK.due("6: told anew", () -> x.rank(), -1);
        x.eliminate(40000);
        CHECK.due("6: rank 1 of 3", () -> x.rank(), 1);
        LimbSolver six = Make.crossed(6);
        six.eliminate(40000);
        CHECK.due("6: rank 6", () -> six.rank(), 6);
    }

    private static void promise7IsSolvable() {
        LimbSolver x = Make.solver(Make.row(1, 2, 3), Make.row(2, 4, 6));
        CHECK.early("7: not eliminated", () -> Make.truth(x.isSolvable()));
        x.eliminate(40000);
        CHECK.due("7: twice the same row", () -> Make.truth(x.isSolvable()), 1);
        x.right(1, 7, 1);
        CHECK.early("7: told anew", () -> Make.truth(x.isSolvable()));
        x.eliminate(40000);
        CHECK.due("7: rows that speak against each other", () -> Make.truth(x.isSolvable()), 0);
        x.set(1, 1, 5, 1);
        x.eliminate(40000);
        CHECK.due("7: full rank", () -> Make.truth(x.isSolvable()), 1);
        LimbSolver zero = new LimbSolver();
        zero.right(0, 1, 1);
        zero.eliminate(40000);
        CHECK.due("7: 0 is not 1", () -> Make.truth(zero.isSolvable()), 0);
    }

    private static void promise8Most() {
        LimbSolver x = Make.solver(Make.row(70000, 1, 1), Make.row(1, 70000, 1));
        CHECK.early("8: not eliminated", () -> x.most());
        x.eliminate(40000);
        // 14 at first; behind column 0 17, with 4899999999 by 70000 and 69999 by 70000 below; behind
        // column 1 18, with 70000 by 70001 as the upper right side.
        CHECK.due("8: most", () -> x.most(), 18);
        CHECK.due("8: meter stays", () -> x.meter(), 14);
        LimbSolver shrinking = Make.solver(Make.row(65536, 65536, 65536), Make.row(65536, 65536, 65536));
        shrinking.eliminate(40000);
        CHECK.due("8: the first state counts", () -> shrinking.most(), 18);
        LimbSolver zero = new LimbSolver();
        zero.eliminate(40000);
        CHECK.due("8: zeros", () -> zero.most(), 2);
    }

    private static void promise9Pivot() {
        LimbSolver x = Make.solver(Make.row(0, 0, 2, 1), Make.row(0, 3, 1, 1), Make.row(0, 6, 2, 2));
        CHECK.early("9: not eliminated", () -> x.pivot(0));
        CHECK.outside("9: the index goes first", () -> x.pivot(3));
        x.eliminate(40000);
        CHECK.due("9: column 0 has none", () -> x.pivot(0), -1);
        CHECK.due("9: column 1", () -> x.pivot(1), 0);
        CHECK.due("9: column 2", () -> x.pivot(2), 1);
        CHECK.outside("9: column 3", () -> x.pivot(3));
        CHECK.outside("9: column -1", () -> x.pivot(-1));
        x.right(2, 3, 1);
        x.eliminate(40000);
        CHECK.due("9: not solvable, yet a pivot", () -> x.pivot(2), 1);
    }

    private static void promise10Solution() {
        LimbSolver x = Make.solver(Make.row(2, 0, -3), Make.row(0, 65537, 1));
        CHECK.early("10: not eliminated", () -> x.solution(0, 0, 0));
        CHECK.outside("10: the index goes first", () -> x.solution(2, 0, 0));
        x.eliminate(40000);
        CHECK.due("10: sign", () -> x.solution(0, 0, 0), -1);
        CHECK.due("10: the sign has no use for k", () -> x.solution(0, 0, 9), -1);
        CHECK.due("10: nor for k -1", () -> x.solution(1, 0, -1), 1);
        CHECK.due("10: numerator", () -> x.solution(0, 1, 0), 3);
        CHECK.due("10: denominator", () -> x.solution(0, 2, 0), 2);
        CHECK.due("10: limbs of 65537", () -> x.solution(1, 2, -1), 2);
        CHECK.due("10: limb 0 of 65537", () -> x.solution(1, 2, 0), 1);
        CHECK.due("10: limb 1 of 65537", () -> x.solution(1, 2, 1), 1);
        CHECK.due("10: limb 2 of 65537", () -> x.solution(1, 2, 2), -1);
        CHECK.due("10: limb -2", () -> x.solution(1, 2, -2), -1);
        CHECK.due("10: limb MIN", () -> x.solution(1, 2, MIN), -1);
        CHECK.due("10: limb MAX", () -> x.solution(1, 2, MAX), -1);
        CHECK.outside("10: column 2", () -> x.solution(2, 0, 0));
        CHECK.outside("10: column -1", () -> x.solution(-1, 0, 0));
        CHECK.outside("10: part 3", () -> x.solution(0, 3, 0));
        CHECK.outside("10: part -1", () -> x.solution(0, -1, 0));
        LimbSolver free = Make.solver(Make.row(0, 4, 10), Make.row(0, 2, 5));
        free.eliminate(40000);
        CHECK.due("10: x without a pivot is 0", () -> free.solution(0, 0, 0), 0);
        CHECK.due("10: it has no limbs", () -> free.solution(0, 1, -1), 0);
        CHECK.due("10: it is by 1", () -> free.solution(0, 2, 0), 1);
        CHECK.due("10: x beside it", () -> free.solution(1, 1, 0), 5);
        free.right(1, 6, 1);
        free.eliminate(40000);
        CHECK.early("10: not solvable", () -> free.solution(1, 1, 0));
        CHECK.outside("10: not solvable, but the index goes first", () -> free.solution(1, 3, 0));
    }

    private static void promise11Determinant() {
        LimbSolver x = Make.solver(Make.row(0, 2, 5), Make.row(3, 4, 6));
        CHECK.early("11: not eliminated", () -> x.determinant(0, 0));
        CHECK.outside("11: the index goes first", () -> x.determinant(3, 0));
        x.eliminate(40000);
        CHECK.due("11: a change of places turns the sign", () -> x.determinant(0, 0), -1);
        CHECK.due("11: numerator", () -> x.determinant(1, 0), 6);
        CHECK.due("11: its limbs", () -> x.determinant(1, -1), 1);
        CHECK.due("11: no limb 1", () -> x.determinant(1, 1), -1);
        CHECK.due("11: denominator", () -> x.determinant(2, 0), 1);
        CHECK.outside("11: part -1", () -> x.determinant(-1, 0));
        x.set(0, 1, 2, 9);
        x.eliminate(40000);
        CHECK.due("11: 2 by 3", () -> x.determinant(1, 0), 2);
        CHECK.due("11: 2 by 3", () -> x.determinant(2, 0), 3);
        x.set(1, 0, 0, 1);
        x.eliminate(40000);
        CHECK.due("11: not solvable, yet 0", () -> x.determinant(0, 0), 0);
        CHECK.due("11: 0 has no limbs", () -> x.determinant(1, -1), 0);
        CHECK.due("11: 0 is by 1", () -> x.determinant(2, 0), 1);
        LimbSolver six = Make.crossed(6);
        six.eliminate(40000);
        CHECK.due("11: three changes of places", () -> six.determinant(0, 0), -1);
        LimbSolver five = Make.crossed(5);
        five.eliminate(40000);
        CHECK.due("11: two changes of places", () -> five.determinant(0, 0), 1);
    }

    private static void promise12Cell() {
        LimbSolver x = Make.solver(Make.row(2, 1, 5), Make.row(4, 5, 11));
        CHECK.early("12: not eliminated", () -> x.cell(0, 0, 0, 0));
        CHECK.outside("12: the index goes first", () -> x.cell(0, 3, 0, 0));
        x.eliminate(40000);
        CHECK.due("12: the pivot stays as it is", () -> x.cell(0, 0, 1, 0), 2);
        CHECK.due("12: cleared above", () -> x.cell(0, 1, 0, 0), 0);
        CHECK.due("12: cleared below", () -> x.cell(1, 0, 1, -1), 0);
        CHECK.due("12: second pivot", () -> x.cell(1, 1, 1, 0), 3);
        CHECK.due("12: right side", () -> x.cell(0, 2, 1, 0), 14);
        CHECK.due("12: its denominator", () -> x.cell(0, 2, 2, 0), 3);
        CHECK.due("12: second right side", () -> x.cell(1, 2, 1, 0), 1);
        CHECK.outside("12: row 2", () -> x.cell(2, 0, 0, 0));
        CHECK.outside("12: row -1", () -> x.cell(-1, 0, 0, 0));
        CHECK.outside("12: column 3", () -> x.cell(0, 3, 0, 0));
        CHECK.outside("12: part 3", () -> x.cell(0, 0, 3, 0));
        LimbSolver skipped = Make.solver(Make.row(1, 2, 3, 4), Make.row(2, 4, 7, 9), Make.row(1, 2, 4, 6));
        skipped.eliminate(40000);
        CHECK.due("12: not solvable, yet a cell", () -> skipped.cell(2, 3, 1, 0), 1);
        CHECK.due("12: a column without a pivot keeps what is above", () -> skipped.cell(0, 1, 1, 0), 2);
        CHECK.due("12: and is 0 below", () -> skipped.cell(1, 1, 0, 0), 0);
        CHECK.due("12: a later column is cleared above", () -> skipped.cell(0, 2, 0, 0), 0);
        CHECK.due("12: with its right side", () -> skipped.cell(0, 3, 1, 0), 1);
    }

    private static void promise13Told() {
        LimbSolver x = Make.solver(Make.row(0, 2, 5), Make.row(3, 4, -6));
        x.eliminate(40000);
        CHECK.due("13: as told, not as eliminated", () -> x.told(0, 0, 0, 0), 0);
        CHECK.due("13: places as told", () -> x.told(1, 0, 1, 0), 3);
        CHECK.due("13: right side", () -> x.told(1, 2, 0, 0), -1);
        CHECK.due("13: limbs", () -> x.told(1, 2, 1, -1), 1);
        CHECK.due("13: limb 0", () -> x.told(1, 2, 1, 0), 6);
        CHECK.due("13: no limb 1", () -> x.told(1, 2, 1, 1), -1);
        CHECK.due("13: no limb -2", () -> x.told(1, 2, 2, -2), -1);
        CHECK.outside("13: row 2", () -> x.told(2, 0, 0, 0));
        CHECK.outside("13: row -1", () -> x.told(-1, 0, 0, 0));
        CHECK.outside("13: column 3", () -> x.told(0, 3, 0, 0));
        CHECK.outside("13: column -1", () -> x.told(0, -1, 0, 0));
        CHECK.outside("13: part 3", () -> x.told(0, 0, 3, 0));
        CHECK.outside("13: part -1", () -> x.told(0, 0, -1, 0));
        CHECK.due("13: asking changes nothing", () -> x.rank(), 2);
    }

    private static void promise14Modulo() {
        LimbSolver x = Make.solver(Make.row(0, 2, 5), Make.row(3, 4, 6));
        CHECK.due("14: -6 modulo 7, not eliminated", () -> x.modulo(7), 1);
        CHECK.due("14: -6 modulo 46337", () -> x.modulo(46337), 46331);
        CHECK.due("14: -6 modulo 2", () -> x.modulo(2), 0);
        CHECK.due("14: it eliminates nothing", () -> x.rank(), -1);
        int[] none = {MIN, -7, -1, 0, 1, 4, 9, 46336, 46338, 46339, 46349, 65537, MAX};
        for (int q : none) {
            CHECK.due("14: " + q + " won't do", () -> x.modulo(q), -1);
        }
        CHECK.due("14: 211 * 211 is no prime", () -> x.modulo(211 * 211), -1);
        x.right(0, 1, 7);
        CHECK.due("14: right sides don't count", () -> x.modulo(7), 1);
        x.set(0, 0, 1, 7);
        CHECK.due("14: 7 divides a denominator", () -> x.modulo(7), -1);
        x.set(0, 0, 7, 14);
        CHECK.due("14: in lowest terms it does not", () -> x.modulo(7), 3);
        x.eliminate(40000);
        CHECK.due("14: -4 modulo 7, eliminated", () -> x.modulo(7), 3);
        CHECK.due("14: it stays eliminated", () -> x.rank(), 2);
        x.size(1);
        x.set(0, 0, MIN, MAX);
        CHECK.due("14: MIN by MAX modulo 5", () -> x.modulo(5), 1);
        x.set(0, 0, 1, MIN);
        CHECK.due("14: 2 divides MIN", () -> x.modulo(2), -1);
        CHECK.due("14: 1 by MIN modulo 3", () -> x.modulo(3), 1);
    }

    private static void promise15Meter() {
        LimbSolver x = Make.solver(Make.row(70000, 1, 1), Make.row(1, 70000, 1));
        CHECK.due("15: meter", () -> x.meter(), 14);
        x.eliminate(40000);
        CHECK.due("15: as told, not as eliminated", () -> x.meter(), 14);
        CHECK.due("15: it stays eliminated", () -> x.rank(), 2);
        x.right(0, 65536, 65537);
        CHECK.due("15: right sides count", () -> x.meter(), 16);
        x.size(6);
        CHECK.due("15: 42 zeros", () -> x.meter(), 42);
    }

    private static void promise16IsRight() {
        LimbSolver x = Make.solver(Make.row(0, 2, 5), Make.row(3, 4, 6));
        CHECK.early("16: not eliminated", () -> Make.truth(x.isRight(0)));
        CHECK.outside("16: the index goes first", () -> Make.truth(x.isRight(2)));
        x.eliminate(40000);
        CHECK.due("16: row 0", () -> Make.truth(x.isRight(0)), 1);
        CHECK.due("16: row 1", () -> Make.truth(x.isRight(1)), 1);
        CHECK.outside("16: row 2", () -> Make.truth(x.isRight(2)));
        CHECK.outside("16: row -1", () -> Make.truth(x.isRight(-1)));
        x.right(1, 9, 2);
        CHECK.early("16: told anew", () -> Make.truth(x.isRight(0)));
        x.set(1, 0, 0, 1);
        x.eliminate(40000);
        CHECK.early("16: not solvable", () -> Make.truth(x.isRight(0)));
        CHECK.outside("16: not solvable, but the index goes first", () -> Make.truth(x.isRight(-1)));
        x.right(1, 10, 1);
        x.eliminate(40000);
        CHECK.due("16: with x without a pivot", () -> Make.truth(x.isRight(1)), 1);
    }
}
