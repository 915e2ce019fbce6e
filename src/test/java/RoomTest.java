import java.lang.management.ManagementFactory;

/** All calls of a run live in one room: only the constructor, and what throws, may take of it. */
public final class RoomTest {
    private static final int N = 6;
    private static final Check CHECK = new Check();

    public static void main(String[] args) {
        com.sun.management.ThreadMXBean threads =
                (com.sun.management.ThreadMXBean) ManagementFactory.getThreadMXBean();
        long thread = Thread.currentThread().getId();
        work(new LimbSolver());
        threads.getThreadAllocatedBytes(thread);

        long before = threads.getThreadAllocatedBytes(thread);
        LimbSolver solver = new LimbSolver();
        long made = threads.getThreadAllocatedBytes(thread) - before;
        before = threads.getThreadAllocatedBytes(thread);
        work(solver);
        long worked = threads.getThreadAllocatedBytes(thread) - before;
        System.out.println("a new object takes " + made + " bytes, 500 calls take " + worked);
        CHECK.due("a new object stays below 100000 bytes", () -> made < 100000 ? 1 : 0, 1);
        CHECK.due("calls take no room", () -> worked < 2000 ? 1 : 0, 1);
        CHECK.finish("RoomTest");
    }

    private static void work(LimbSolver solver) {
        solver.size(N);
        int calls = 1;
        while (calls < 490) {
            int i = calls % N;
            int j = calls / N % N;
            solver.set(i, j, Integer.MAX_VALUE - 1000 * calls, Integer.MAX_VALUE - 77 * calls);
            solver.right(i, calls, Integer.MAX_VALUE - 35 * calls);
            if (solver.eliminate(40000) >= 0 && solver.isSolvable()) {
                solver.solution(i, 1, 3);
                solver.isRight(i);
            }
            solver.determinant(2, 0);
            solver.cell(i, j, 1, -1);
            solver.told(i, j, 2, 0);
            solver.modulo(46327);
            solver.meter();
            calls += 10;
        }
    }
}
