/** Counts the answers that are not the ones that are due, and tells them. */
final class Check {
    interface Call {
        long answer();
    }

    private int right;
    private int wrong;

    /** A call's answer as text; an exception is told as in the issues. */
    static String told(Call call) {
        try {
            return Long.toString(call.answer());
        } catch (RuntimeException e) {
            return "throws." + e.getClass().getSimpleName();
        }
    }

    void due(String name, String got, String want) {
        if (got.equals(want)) {
            right++;
        } else {
            wrong++;
            System.out.println(name + " answered " + got + ", due is " + want);
        }
    }

    void due(String name, Call call, long want) {
        due(name, told(call), Long.toString(want));
    }

    void outside(String name, Call call) {
        due(name, told(call), "throws.IndexOutOfBoundsException");
    }

    void refused(String name, Call call) {
        due(name, told(call), "throws.IllegalArgumentException");
    }

    void early(String name, Call call) {
        due(name, told(call), "throws.IllegalStateException");
    }

    boolean isClean() {
        return wrong == 0;
    }

    void finish(String name) {
        System.out.println(name + ": " + right + " answers as due, " + wrong + " not");
        if (wrong != 0 || right == 0) {
            System.exit(1);
        }
    }
}
