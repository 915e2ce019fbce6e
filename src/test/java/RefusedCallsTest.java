import java.util.ArrayList;
import java.util.List;
import java.util.function.Supplier;
import java.util.function.ToLongFunction;

/**
 * "Methods throw what their comments name, the one named first when several would do; a call that
 * throws, or answers NONE, changes nothing." Each such call of the face is made in each situation
 * and on a new object; all that is answered behind it, and behind an elimination more, is compared
 * with an object on which it was not made.
 */
public final class RefusedCallsTest {
    private static final int MIN = Make.MIN;
    private static final int MAX = Make.MAX;
    private static final String OUTSIDE = "throws.IndexOutOfBoundsException";
    private static final String ARGUMENT = "throws.IllegalArgumentException";
    private static final String STATE = "throws.IllegalStateException";
    private static final String NONE = "-1";
    private static final Check CHECK = new Check();

    private record Situation(String name, int n, boolean eliminated, boolean solvable, Supplier<LimbSolver> made) {
    }

    private record Refusal(String name, String due, ToLongFunction<LimbSolver> call) {
    }

    private final List<Refusal> refusals = new ArrayList<>();

    public static void main(String[] args) {
        for (Situation situation : situations()) {
            new RefusedCallsTest().all(situation);
        }
        CHECK.finish("RefusedCallsTest");
    }

    private static List<Situation> situations() {
        int[][] changing = {{0, 2, 5}, {3, 4, 6}};
        int[][] against = {{1, 2, 5}, {2, 4, 11}};
        int[][] free = {{0, 2, 4, 6}, {0, 1, 2, 3}, {0, 0, 5, 70000}};
        List<Situation> all = new ArrayList<>();
        all.add(new Situation("new", 1, false, false, LimbSolver::new));
        all.add(new Situation("told", 2, false, false, () -> Make.solver(changing)));
        all.add(new Situation("solved", 2, true, true, () -> Make.eliminated(changing)));
        all.add(new Situation("not solvable", 2, true, false, () -> Make.eliminated(against)));
        all.add(new Situation("solved with a free x", 3, true, true, () -> Make.eliminated(free)));
        all.add(new Situation("zeros, eliminated", 1, true, true, () -> Make.eliminated(Make.row(0, 0))));
        // Its states have 14, 17 and 18 limbs.
        int[][] growing = {{70000, 1, 1}, {1, 70000, 1}};
        for (int cap : new int[] {13, 17}) {
            all.add(new Situation("above a cap of " + cap, 2, false, false, () -> {
                LimbSolver x = Make.eliminated(growing);
                x.eliminate(cap);
                return x;
            }));
        }
        all.add(new Situation("told anew", 2, false, false, () -> {
            LimbSolver x = Make.eliminated(changing);
            x.set(1, 1, 5, 7);
            return x;
        }));
        return all;
    }

    private void all(Situation s) {
        outside(s.n());
        arguments();
        if (!s.eliminated()) {
            early();
        }
        if (!s.eliminated() || !s.solvable()) {
            unsolved();
        }
        nones(s);
        for (Refusal refusal : refusals) {
            compare(s, refusal);
        }
    }

    private void compare(Situation s, Refusal refusal) {
        String name = s.name() + ": " + refusal.name();
        LimbSolver x = s.made().get();
        LimbSolver twin = s.made().get();
        CHECK.due(name, Check.told(() -> refusal.call().applyAsLong(x)), refusal.due());
        CHECK.due(name + " changes nothing", Seen.all(x, s.n()), Seen.all(twin, s.n()));
        x.eliminate(Make.ANY);
        twin.eliminate(Make.ANY);
        CHECK.due(name + " changes nothing below", Seen.all(x, s.n()), Seen.all(twin, s.n()));
    }

    private void add(String name, String due, ToLongFunction<LimbSolver> call) {
        refusals.add(new Refusal(name, due, call));
    }

    /** Named first wherever it is named: no den and no state comes before it. */
    private void outside(int n) {
        for (int wrong : new int[] {-1, n, MIN, MAX}) {
            add("set row " + wrong, OUTSIDE, x -> x.set(wrong, 0, 5, 3));
            add("set column " + wrong, OUTSIDE, x -> x.set(0, wrong, 5, 3));
            add("set row " + wrong + ", den 0", OUTSIDE, x -> x.set(wrong, 0, 5, 0));
            add("set column " + wrong + ", den 0", OUTSIDE, x -> x.set(0, wrong, 5, 0));
            add("right row " + wrong, OUTSIDE, x -> x.right(wrong, 5, 3));
            add("right row " + wrong + ", den 0", OUTSIDE, x -> x.right(wrong, 5, 0));
            add("pivot column " + wrong, OUTSIDE, x -> x.pivot(wrong));
            add("solution column " + wrong, OUTSIDE, x -> x.solution(wrong, 1, 0));
            add("cell row " + wrong, OUTSIDE, x -> x.cell(wrong, 0, 1, 0));
            add("told row " + wrong, OUTSIDE, x -> x.told(wrong, 0, 1, 0));
            add("isRight row " + wrong, OUTSIDE, x -> Make.truth(x.isRight(wrong)));
        }
        for (int wrong : new int[] {-1, n + 1, MIN, MAX}) {
            add("cell column " + wrong, OUTSIDE, x -> x.cell(0, wrong, 1, 0));
            add("told column " + wrong, OUTSIDE, x -> x.told(0, wrong, 1, 0));
        }
        for (int which : new int[] {-1, 3, MIN, MAX}) {
            add("solution which " + which, OUTSIDE, x -> x.solution(0, which, 0));
            add("determinant which " + which, OUTSIDE, x -> x.determinant(which, 0));
            add("cell which " + which, OUTSIDE, x -> x.cell(0, 0, which, 0));
            add("told which " + which, OUTSIDE, x -> x.told(0, 0, which, 0));
        }
    }

    private void arguments() {
        for (int wrong : new int[] {0, 7, -1, MIN, MAX}) {
            add("size " + wrong, ARGUMENT, x -> Make.resize(x, wrong));
        }
        for (int wrong : new int[] {-1, 40001, MIN, MAX}) {
            add("eliminate " + wrong, ARGUMENT, x -> x.eliminate(wrong));
        }
        for (int num : new int[] {0, 5, MIN, MAX}) {
            add("set " + num + " by 0", ARGUMENT, x -> x.set(0, 0, num, 0));
            add("right " + num + " by 0", ARGUMENT, x -> x.right(0, num, 0));
        }
    }

    /** What needs an elimination. */
    private void early() {
        add("isSolvable", STATE, x -> Make.truth(x.isSolvable()));
        add("most", STATE, x -> x.most());
        add("pivot", STATE, x -> x.pivot(0));
        for (int part = 0; part <= 2; part++) {
            int which = part;
            add("determinant " + which, STATE, x -> x.determinant(which, 0));
            add("cell " + which, STATE, x -> x.cell(0, 0, which, 0));
            add("cell " + which + " of no limb", STATE, x -> x.cell(0, 0, which, MIN));
        }
        add("rank", NONE, x -> x.rank());
        add("eliminate below the meter", NONE, x -> x.eliminate(1));
    }

    /** What needs a solution. */
    private void unsolved() {
        for (int part = 0; part <= 2; part++) {
            int which = part;
            add("solution " + which, STATE, x -> x.solution(0, which, 0));
            add("solution " + which + ", limbs", STATE, x -> x.solution(0, which, -1));
            add("solution " + which + " of no limb", STATE, x -> x.solution(0, which, MIN));
        }
        add("isRight", STATE, x -> Make.truth(x.isRight(0)));
    }

    /** What answers NONE where all that it needs is there. */
    private void nones(Situation s) {
        for (int q : new int[] {MIN, -2, 0, 1, 4, 46338, 46349, MAX}) {
            add("modulo " + q, NONE, x -> x.modulo(q));
        }
        for (int k : new int[] {-2, 2, MIN, MAX}) {
            for (int part = 1; part <= 2; part++) {
                int which = part;
                add("told of no limb " + k, NONE, x -> x.told(0, 0, which, k));
                if (s.eliminated()) {
                    add("cell of no limb " + k, NONE, x -> x.cell(0, 0, which, k));
                    add("determinant of no limb " + k, NONE, x -> x.determinant(which, k));
                }
                if (s.eliminated() && s.solvable()) {
                    add("solution of no limb " + k, NONE, x -> x.solution(0, which, k));
                }
            }
        }
        if (s.n() == 3) {
            add("pivot of a column without one", NONE, x -> x.pivot(0));
        }
    }
}
