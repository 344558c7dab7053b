import com.sun.management.ThreadMXBean;
import java.lang.management.ManagementFactory;

/** The dearest run fits many times into the room of a run: the calls make next to nothing. */
public final class RoomTest {
    private static final ThreadMXBean MADE = (ThreadMXBean) ManagementFactory.getThreadMXBean();

    public static void main(String[] args) {
        Checks checks = new Checks();
        // A first run loads the classes, which takes room of its own.
        run(new MazeForms(12, 12, 0));
        long before = bytes();
        MazeForms maze = new MazeForms(12, 12, 1);
        long made = bytes() - before;
        checks.due("a new object takes less than 100,000 bytes (" + made + ")", made < 100_000, true);
        before = bytes();
        run(maze);
        long called = bytes() - before;
        checks.due("512 calls take less than 20,000 bytes (" + called + ")", called < 20_000, true);
        checks.end();
    }

    private static long bytes() {
        return MADE.getThreadAllocatedBytes(Thread.currentThread().getId());
    }

    private static void run(MazeForms maze) {
        for (int call = 0; call < 32; call++) {
            maze.mask(call % 12, 6, true);
            maze.mask(call % 12, 6, false);
            for (int way = 0; way <= 4; way++) {
                maze.make(way);
            }
            maze.loops(call);
            maze.path(0, 143);
            maze.at(call);
            maze.grade();
            maze.trees(call % 3);
            maze.parts();
            maze.isTree();
            maze.ends(1);
            maze.set(call, false);
        }
    }
}
