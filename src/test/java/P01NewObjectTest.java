/** Promise 1: the grid of a new object. */
public final class P01NewObjectTest {
    private static final Checks CHECKS = new Checks();

    public static void main(String[] args) {
        edgesAreHeld();
        cellsReachToTheEdges();
        nothingIsMaskedOrOpen();
        seedsDecide();
        CHECKS.end();
    }

    private static int held(int edge) {
        return edge < 1 ? 1 : edge > 12 ? 12 : edge;
    }

    private static void edgesAreHeld() {
        int[] edges = {Integer.MIN_VALUE, -1, 0, 1, 2, 5, 11, 12, 13, 100, Integer.MAX_VALUE};
        for (int width : edges) {
            for (int height : edges) {
                int w = held(width);
                int h = held(height);
                int due = (w - 1) * h + w * (h - 1);
                CHECKS.due("doors() of " + width + ", " + height, new MazeForms(width, height, 0).doors(), due);
            }
        }
    }

    private static void cellsReachToTheEdges() {
        MazeForms wide = new MazeForms(99, -5, 0);
        CHECKS.due("mask(11, 0, true) of 12 x 1", wide.mask(11, 0, true), true);
        CHECKS.due("mask(12, 0, true) of 12 x 1", wide.mask(12, 0, true), false);
        CHECKS.due("mask(0, 1, true) of 12 x 1", wide.mask(0, 1, true), false);
        MazeForms high = new MazeForms(-5, 99, 0);
        CHECKS.due("mask(0, 11, true) of 1 x 12", high.mask(0, 11, true), true);
        CHECKS.due("mask(0, 12, true) of 1 x 12", high.mask(0, 12, true), false);
        CHECKS.due("mask(1, 0, true) of 1 x 12", high.mask(1, 0, true), false);
    }

    private static void nothingIsMaskedOrOpen() {
        MazeForms maze = new MazeForms(7, 5, 3);
        CHECKS.due("open doors of a new object", Mazes.openDoors(maze, 7, 5), 0);
        CHECKS.due("parts() of a new object", maze.parts(), 35);
        CHECKS.due("ends(0) of a new object", maze.ends(0), 35);
        for (int y = 0; y < 5; y++) {
            for (int x = 0; x < 7; x++) {
                CHECKS.due("unmasking " + x + ", " + y, maze.mask(x, y, false), false);
            }
        }
        CHECKS.due("at(0) of a new object", maze.at(0), -1);
        CHECKS.due("grade() of a new object", maze.grade(), -1);
    }

    private static void seedsDecide() {
        int[] seeds = {0, 1, -1, 99, Integer.MIN_VALUE, Integer.MAX_VALUE};
        for (int seed : seeds) {
            MazeForms maze = new MazeForms(12, 12, seed);
            maze.make(0);
            for (int other : seeds) {
                MazeForms second = new MazeForms(12, 12, other);
                second.make(0);
                boolean alike = Mazes.picture(maze, 12, 12).equals(Mazes.picture(second, 12, 12));
                CHECKS.due("seeds " + seed + " and " + other + " make the same", alike, seed == other);
            }
        }
    }
}
