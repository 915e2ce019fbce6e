/**
 * All that an object answers, as one text: what was changed shows as another text. With 3 rows of
 * small numbers it takes some 160 of an object's 512 calls.
 */
final class Seen {
    private final LimbSolver x;
    private final StringBuilder text = new StringBuilder();

    private interface Part {
        int ask(int which, int k);
    }

    private Seen(LimbSolver x) {
        this.x = x;
    }

    static String all(LimbSolver x, int n) {
        Seen seen = new Seen(x);
        seen.told(n);
        seen.eliminated(n);
        return seen.text.toString();
    }

    /** What was told alone: what an elimination does not change. */
    static String toldOnly(LimbSolver x, int n) {
        Seen seen = new Seen(x);
        seen.told(n);
        return seen.text.toString();
    }

    private void told(int n) {
        add("meter", () -> x.meter());
        for (int q : new int[] {2, 3, 5, 46337}) {
            add("modulo" + q, () -> x.modulo(q));
        }
        for (int i = 0; i <= n; i++) {
            for (int j = 0; j <= n + 1; j++) {
                int row = i;
                int column = j;
                part("told" + i + j, (which, k) -> x.told(row, column, which, k));
            }
        }
    }

    private void eliminated(int n) {
        add("rank", () -> x.rank());
        add("isSolvable", () -> Make.truth(x.isSolvable()));
        add("most", () -> x.most());
        part("determinant", (which, k) -> x.determinant(which, k));
        for (int i = 0; i < n; i++) {
            int at = i;
            add("pivot" + i, () -> x.pivot(at));
            add("isRight" + i, () -> Make.truth(x.isRight(at)));
            part("solution" + i, (which, k) -> x.solution(at, which, k));
            for (int j = 0; j <= n; j++) {
                int column = j;
                part("cell" + i + j, (which, k) -> x.cell(at, column, which, k));
            }
        }
    }

    private void add(String name, Check.Call call) {
        text.append(' ').append(name).append('=').append(Check.told(call));
    }

    /** One that throws for its sign is not asked for its limbs. */
    private void part(String name, Part part) {
        String sign = Check.told(() -> part.ask(0, 0));
        text.append(' ').append(name).append('=').append(sign);
        if (sign.startsWith("throws")) {
            return;
        }
        for (int which = 1; which <= 2; which++) {
            int limbs = part.ask(which, -1);
            text.append(which == 1 ? ':' : '/').append(limbs);
            for (int k = 0; k < limbs; k++) {
                text.append(k == 0 ? '(' : ',').append(part.ask(which, k)).append(k == limbs - 1 ? ")" : "");
            }
        }
    }
}
