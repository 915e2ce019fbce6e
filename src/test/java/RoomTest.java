import java.lang.management.ManagementFactory;

/** All calls of a run live in one room: only the constructor, and what throws, may take of it. */
public final class RoomTest {
    private static final int N = 6;
    private static final Check CHECK = new Check();

    public static void main(String[] args) {
        com.sun.management.ThreadMXBean threads =
                (com.sun.management.ThreadMXBean) ManagementFactory.getThreadMXBean();
        long thread = Thread.currentThread().getId();
        work(new LimbSolver());
        threads.getThreadAllocatedBytes(thread);

        long before = threads.getThreadAllocatedBytes(thread);
        LimbSolver solver = new LimbSolver();
        long made = threads.getThreadAllocatedBytes(thread) - before;
        before = threads.getThreadAllocatedBytes(thread);
        work(solver);
        long worked = threads.getThreadAllocatedBytes(thread) - before;
        System.out.println("a new object takes " + made + " bytes, 500 calls take " + worked);
        CHECK.due("a new object stays below 100000 bytes", () -> made < 100000 ? 1 : 0, 1);
        CHECK.due("calls take no room", () -> worked < 2000 ? 1 : 0, 1);
        LimbSolver another = new LimbSolver();
        before = threads.getThreadAllocatedBytes(thread);
        dearest(another);
        long dear = threads.getThreadAllocatedBytes(thread) - before;
        System.out.println("the dearest 512 calls take " + dear);
        CHECK.due("the dearest calls take no room", () -> dear < 2000 ? 1 : 0, 1);
        CHECK.finish("RoomTest");
    }

    /** 512 calls, every second one of them an elimination of six rows that were told anew. */
    private static void dearest(LimbSolver solver) {
        solver.size(N);
        for (int i = 0; i < N; i++) {
            for (int j = 0; j < N; j++) {
                solver.set(i, j, Integer.MAX_VALUE - 40 * i - j, Integer.MAX_VALUE - 6 * i - 36 * j);
            }
            solver.right(i, Integer.MIN_VALUE, Integer.MAX_VALUE - 300 - 2 * i);
        }
        for (int calls = 44; calls + 1 <= 512; calls += 2) {
            solver.right(calls % N, Integer.MIN_VALUE, Integer.MAX_VALUE - 2 * calls);
            solver.eliminate(40000);
        }
    }

    private static void work(LimbSolver solver) {
        solver.size(N);
        int calls = 1;
        while (calls < 490) {
            int i = calls % N;
            int j = calls / N % N;
            solver.set(i, j, Integer.MAX_VALUE - 1000 * calls, Integer.MAX_VALUE - 77 * calls);
            solver.right(i, calls, Integer.MAX_VALUE - 35 * calls);
            if (solver.eliminate(40000) >= 0 && solver.isSolvable()) {
                solver.solution(i, 1, 3);
                solver.isRight(i);
            }
            solver.determinant(2, 0);
            solver.cell(i, j, 1, -1);
            solver.told(i, j, 2, 0);
            solver.modulo(46327);
            solver.meter();
            calls += 11;
        }
    }
}
