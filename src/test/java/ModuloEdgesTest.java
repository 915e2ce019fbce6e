/** Promise 14: each sentence that names a boundary case has a test here. */
public final class ModuloEdgesTest {
    private static final int MIN = Make.MIN;
    private static final int MAX = Make.MAX;
    private static final int LAST = 46337;
    private static final Check CHECK = new Check();

    public static void main(String[] args) {
        takesThePrimesFrom2To46337();
        answersNoneForAllOthers();
        answersFrom0ToQLess1();
        answersNoneWhenQDividesADenominator();
        looksAtLowestTerms();
        looksAtEachCell();
        rightSidesDoNotCount();
        eliminatedOrNot();
        noneChangesNothing();
        changesOfPlacesTurnTheSign();
        determinantOfFractions();
        CHECK.finish("ModuloEdgesTest");
    }

    /** "q is no prime 2 .. 46337": each number up to there, and some behind. */
    private static void takesThePrimesFrom2To46337() {
        boolean[] composite = new boolean[46400];
        for (int i = 2; i < composite.length; i++) {
            for (int j = 2 * i; j < composite.length; j += i) {
                composite[j] = true;
            }
        }
        LimbSolver x = null;
        for (int i = 0; i < composite.length; i++) {
            // An object is promised to answer 512 calls only.
            if (i % 500 == 0) {
                x = Make.solver(Make.row(-1, 0));
            }
            LimbSolver asked = x;
            int q = i;
            boolean prime = q >= 2 && q <= LAST && !composite[q];
            CHECK.due("14: -1 modulo " + q, () -> asked.modulo(q), prime ? q - 1 : -1);
        }
    }

    private static void answersNoneForAllOthers() {
        LimbSolver x = Make.solver(Make.row(5, 0));
        CHECK.due("14: 2, the first prime", () -> x.modulo(2), 1);
        CHECK.due("14: 46337, the last", () -> x.modulo(LAST), 5);
        int[] none = {
            1, 0, -1, -2, -3, -5, -46337, MIN, MAX, MIN + 1, MAX - 1, 46338, 46339, 46340, 46341, 46349, 65521, 65536,
            65537, 4, 9, 25, 209 * 211, 211 * 211, 46336, 1 << 30, 65536 + 2, 65536 + 46337, MAX - 18,
        };
        for (int q : none) {
            CHECK.due("14: " + q + " won't do", () -> x.modulo(q), -1);
        }
    }

    /** "(0 .. q - 1 ..)" */
    private static void answersFrom0ToQLess1() {
        for (int q : new int[] {2, 3, 5, 257, 46327, LAST}) {
            int[] nums = {0, 1, -1, q - 1, q, q + 1, 1 - q, -q, -q - 1, MIN, MAX, MIN + 1, MAX / q * q, -(MAX / q) * q};
            for (int num : nums) {
                LimbSolver x = Make.solver(Make.row(num, 0));
                CHECK.due("14: " + num + " modulo " + q, () -> x.modulo(q), Math.floorMod(num, q));
            }
        }
        LimbSolver large = Make.solver(Make.row(46336, 0, 1), Make.row(0, 46336, 1));
        CHECK.due("14: 46336 * 46336 modulo 46337", () -> large.modulo(LAST), 1);
        LimbSolver gone = Make.solver(Make.row(0, LAST, 1), Make.row(1, 0, 1));
        CHECK.due("14: -46337 modulo 46337", () -> gone.modulo(LAST), 0);
    }

    /** "or divides the DENOMINATOR of a CELL" */
    private static void answersNoneWhenQDividesADenominator() {
        for (int q : new int[] {2, 3, 257, 46327, LAST}) {
            LimbSolver x = new LimbSolver();
            int[] dens = {q, -q, 2 * q, 5 * q, MAX / q * q};
            for (int den : dens) {
                x.set(0, 0, 1, den);
                CHECK.due("14: 1 by " + den + " modulo " + q, () -> x.modulo(q), -1);
            }
            x.set(0, 0, 1, q - 1);
            CHECK.due("14: 1 by q - 1 modulo " + q, () -> x.modulo(q), q - 1);
            x.set(0, 0, 1, q + 1);
            CHECK.due("14: 1 by q + 1 modulo " + q, () -> x.modulo(q), 1);
        }
        LimbSolver least = new LimbSolver();
        least.set(0, 0, 1, MIN);
        CHECK.due("14: 2 divides 2^31", () -> least.modulo(2), -1);
        CHECK.due("14: 3 does not", () -> least.modulo(3), 1);
        least.set(0, 0, 1, MAX);
        CHECK.due("14: 2 does not divide 2^31 - 1", () -> least.modulo(2), 1);
    }

    /** A DENOMINATOR is that of the lowest terms. */
    private static void looksAtLowestTerms() {
        LimbSolver x = new LimbSolver();
        x.set(0, 0, 14, 7);
        CHECK.due("14: 14 by 7 is 2", () -> x.modulo(7), 2);
        x.set(0, 0, 0, 7);
        CHECK.due("14: 0 by 7 is 0 by 1", () -> x.modulo(7), 0);
        x.set(0, 0, 7, 49);
        CHECK.due("14: 7 by 49 is 1 by 7", () -> x.modulo(7), -1);
        x.set(0, 0, 49, 7);
        CHECK.due("14: 49 by 7 is 7", () -> x.modulo(7), 0);
        x.set(0, 0, MIN, MIN);
        CHECK.due("14: MIN by MIN is 1", () -> x.modulo(2), 1);
    }

    /** "of a CELL": of any one, whether or not the determinant has it. */
    private static void looksAtEachCell() {
        for (int n = 1; n <= 6; n++) {
            for (int i = 0; i < n; i++) {
                for (int j = 0; j < n; j++) {
                    LimbSolver x = Make.zeros(n);
                    x.set(i, j, 1, 7);
                    CHECK.due("14: size " + n + ", cell " + i + ", " + j, () -> x.modulo(7), -1);
                    CHECK.due("14: modulo another", () -> x.modulo(2), n == 1 ? 1 : 0);
                }
            }
        }
        LimbSolver cancelled = Make.zeros(2);
        cancelled.set(0, 0, 1, 7);
        cancelled.set(1, 1, 7, 1);
        CHECK.due("14: the determinant is 1, yet a cell is by 7", () -> cancelled.modulo(7), -1);
        CHECK.due("14: 1 modulo 5", () -> cancelled.modulo(5), 1);
        cancelled.size(2);
        CHECK.due("14: gone behind size", () -> cancelled.modulo(7), 0);
    }

    /** "(RIGHT SIDES don't count)" */
    private static void rightSidesDoNotCount() {
        for (int n = 1; n <= 6; n++) {
            LimbSolver x = Make.zeros(n);
            for (int i = 0; i < n; i++) {
                x.set(i, i, 2, 1);
                x.right(i, 1, 7);
            }
            CHECK.due("14: size " + n + ", right sides by 7", () -> x.modulo(7), (1 << n) % 7);
        }
    }

    /** "(.. eliminated or not)" */
    private static void eliminatedOrNot() {
        LimbSolver x = Make.solver(Make.row(0, 2, 5), Make.row(3, 4, 6));
        CHECK.due("14: not eliminated", () -> x.modulo(5), 4);
        CHECK.due("14: nor is it then", () -> x.rank(), -1);
        x.eliminate(Make.ANY);
        CHECK.due("14: eliminated", () -> x.modulo(5), 4);
        CHECK.due("14: it is so still", () -> x.rank(), 2);
        x.eliminate(0);
        CHECK.due("14: behind a cap of 0", () -> x.modulo(5), 4);
        LimbSolver against = Make.eliminated(Make.row(1, 2, 5), Make.row(2, 4, 11));
        CHECK.due("14: not solvable", () -> against.modulo(5), 0);
        CHECK.due("14: a new object", () -> new LimbSolver().modulo(2), 0);
        LimbSolver anew = Make.eliminated(Make.row(2, 1));
        anew.set(0, 0, 3, 1);
        CHECK.due("14: told anew, not eliminated anew", () -> anew.modulo(5), 3);
    }

    /** "a call that .. answers NONE, changes nothing" */
    private static void noneChangesNothing() {
        for (int q : new int[] {MIN, -1, 0, 1, 4, 7, 46338, MAX}) {
            LimbSolver x = Make.solver(Make.row(0, 2, 5), Make.row(3, 4, 6));
            x.set(0, 1, 1, 7);
            x.eliminate(Make.ANY);
            String before = Seen.all(x, 2);
            CHECK.due("14: modulo " + q, () -> x.modulo(q), -1);
            CHECK.due("14: modulo " + q + " changes nothing", Seen.all(x, 2), before);
        }
    }

    /** "modulo": below 0 it is q less what is above 0, for 2 the same. */
    private static void changesOfPlacesTurnTheSign() {
        int[] signs = {1, -1, -1, 1, 1, -1};
        for (int n = 1; n <= 6; n++) {
            int sign = signs[n - 1];
            LimbSolver x = Make.crossed(n);
            CHECK.due("14: crossed " + n + " modulo 46337", () -> x.modulo(LAST), Math.floorMod(sign, LAST));
            CHECK.due("14: crossed " + n + " modulo 3", () -> x.modulo(3), Math.floorMod(sign, 3));
            CHECK.due("14: crossed " + n + " modulo 2", () -> x.modulo(2), 1);
        }
        // Modulo 3 row 0 has no pivot in column 0, though the cell is not 0.
        LimbSolver only = Make.solver(Make.row(3, 1, 1), Make.row(1, 1, 1));
        CHECK.due("14: 2 modulo 3", () -> only.modulo(3), 2);
        CHECK.due("14: 2 modulo 2", () -> only.modulo(2), 0);
    }

    /** A determinant that is no whole number: its numerator by its denominator, modulo q. */
    private static void determinantOfFractions() {
        LimbSolver x = Make.zeros(2);
        x.set(0, 0, 1, 2);
        x.set(0, 1, 1, 3);
        x.set(1, 0, -1, 4);
        x.set(1, 1, 1, 5);
        // 1 by 10 and 1 by 12 are 11 by 60.
        CHECK.due("14: 11 by 60 modulo 7", () -> x.modulo(7), 1);
        CHECK.due("14: 11 by 60 modulo 11", () -> x.modulo(11), 0);
        CHECK.due("14: 11 by 60 modulo 13", () -> x.modulo(13), 3);
        for (int q : new int[] {2, 3, 5}) {
            CHECK.due("14: " + q + " divides a denominator", () -> x.modulo(q), -1);
        }
    }
}
