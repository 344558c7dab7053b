/** Promise 12: whether the maze is a tree. */
public final class P12IsTreeTest {
    private static final Checks CHECKS = new Checks();

    public static void main(String[] args) {
        CHECKS.due("isTree() of one cell", new MazeForms(1, 1, 0).isTree(), true);
        CHECKS.due("isTree() without cells", Mazes.masked(0, "##", "##").isTree(), true);
        CHECKS.due("isTree() of two cells apart", new MazeForms(2, 1, 0).isTree(), false);
        CHECKS.due("isTree() of one cell beside masks", Mazes.masked(0, "#.", "##").isTree(), true);
        oneDoorTooFewOrTooMany();
        ringAndCellsApart();
        masksDoNotCount();
        CHECKS.end();
    }

    private static void oneDoorTooFewOrTooMany() {
        for (int way = 0; way <= 4; way++) {
            MazeForms maze = new MazeForms(4, 4, way);
            maze.make(way);
            CHECKS.due("isTree() of way " + way, maze.isTree(), true);
            for (int door = 0; door < 24; door++) {
                boolean wasClosed = maze.set(door, true);
                if (!wasClosed) {
                    maze.set(door, false);
                }
                CHECKS.due("isTree() with door " + door + " changed", maze.isTree(), false);
                maze.set(door, !wasClosed);
                CHECKS.due("isTree() with door " + door + " as before", maze.isTree(), true);
            }
        }
    }

    /** As many doors as a tree has, but four of them in a ring, and two cells apart from it. */
    private static void ringAndCellsApart() {
        MazeForms maze = new MazeForms(3, 2, 0);
        Mazes.openThese(maze, 0, 1, 3, 5, 4);
        CHECKS.due("open doors", Mazes.openDoors(maze, 3, 2), 5);
        CHECKS.due("parts()", maze.parts(), 2);
        CHECKS.due("isTree() of a ring and two cells", maze.isTree(), false);
    }

    private static void masksDoNotCount() {
        MazeForms ring = Mazes.masked(0, "...", ".#.", "...");
        Mazes.openAll(ring);
        CHECKS.due("isTree() of a ring", ring.isTree(), false);
        ring.set(4, false);
        CHECKS.due("isTree() of a cut ring", ring.isTree(), true);
        ring.set(5, false);
        CHECKS.due("isTree() of a ring cut twice", ring.isTree(), false);
    }
}
