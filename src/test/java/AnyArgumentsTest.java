/**
 * No call throws, for any arguments in any state, and alike calls on alike objects answer alike. That
 * is asked of all calls, so here an object is used for more than the 512 that the document speaks of.
 */
public final class AnyArgumentsTest {
    private static final int[] NUMBERS = {Integer.MIN_VALUE, Integer.MIN_VALUE + 1, -145, -13, -12, -1, 0, 1, 2, 3, 4,
        5, 11, 12, 13, 143, 144, 145, 200, 201, 263, 264, 265, 1 << 30, Integer.MAX_VALUE - 1, Integer.MAX_VALUE};
    private static final Checks CHECKS = new Checks();

    public static void main(String[] args) {
        int[] edges = {Integer.MIN_VALUE, 1, 2, 7, Integer.MAX_VALUE};
        for (int width : edges) {
            for (int height : edges) {
                int seed = width ^ height;
                String what = "hash of all answers on " + width + ", " + height;
                long first = answers(new MazeForms(width, height, seed), seed);
                CHECKS.due(what, answers(new MazeForms(width, height, seed), seed), first);
            }
        }
        CHECKS.end();
    }

    private static long answers(MazeForms maze, int seed) {
        long hash = seed;
        // The later states are those that the calls before left: masks, open doors, a path.
        for (int round = 0; round < 3; round++) {
            for (int a : NUMBERS) {
                hash = 31 * hash + ofOne(maze, a);
                for (int b : NUMBERS) {
                    hash = 31 * hash + ofTwo(maze, a, b);
                }
            }
        }
        return hash;
    }

    private static long ofOne(MazeForms maze, int a) {
        long hash = maze.make(a);
        hash = 31 * hash + maze.loops(a);
        hash = 31 * hash + maze.at(a);
        hash = 31 * hash + maze.ends(a);
        hash = 31 * hash + maze.trees(a);
        hash = 31 * hash + (maze.set(a, true) ? 1 : 0);
        hash = 31 * hash + (maze.set(a, false) ? 1 : 0);
        hash = 31 * hash + maze.doors();
        hash = 31 * hash + maze.parts();
        hash = 31 * hash + (maze.isTree() ? 1 : 0);
        return 31 * hash + maze.grade();
    }

    private static long ofTwo(MazeForms maze, int a, int b) {
        long hash = maze.path(a, b);
        hash = 31 * hash + maze.at(b);
        hash = 31 * hash + maze.grade();
        for (int side : NUMBERS) {
            hash = 31 * hash + (maze.open(a, b, side) ? 1 : 0);
        }
        hash = 31 * hash + (maze.mask(a, b, (a ^ b) % 3 == 0) ? 1 : 0);
        return hash;
    }
}
