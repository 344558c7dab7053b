/** Promise 4: how many doors there are. */
public final class P04DoorsTest {
    private static final Checks CHECKS = new Checks();

    public static void main(String[] args) {
        CHECKS.due("doors() of 1 x 1", new MazeForms(1, 1, 0).doors(), 0);
        CHECKS.due("doors() of 2 x 1", new MazeForms(2, 1, 0).doors(), 1);
        CHECKS.due("doors() of 1 x 2", new MazeForms(1, 2, 0).doors(), 1);
        CHECKS.due("doors() of 4 x 3", new MazeForms(4, 3, 0).doors(), 17);
        CHECKS.due("doors() of 3 x 4", new MazeForms(3, 4, 0).doors(), 17);
        CHECKS.due("doors() of 12 x 12", new MazeForms(12, 12, 0).doors(), 264);
        maskedCellsHaveNone();
        openDoorsCountToo();
        CHECKS.end();
    }

    private static void maskedCellsHaveNone() {
        CHECKS.due("doors() beside a corner", Mazes.masked(0, "#..", "...", "...").doors(), 10);
        CHECKS.due("doors() beside an edge", Mazes.masked(0, ".#.", "...", "...").doors(), 9);
        CHECKS.due("doors() round the middle", Mazes.masked(0, "...", ".#.", "...").doors(), 8);
        CHECKS.due("doors() beside two side by side", Mazes.masked(0, "...", ".##", "...").doors(), 6);
        CHECKS.due("doors() of a chequered grid", Mazes.masked(0, ".#.", "#.#", ".#.").doors(), 0);
        CHECKS.due("doors() without cells", Mazes.masked(0, "##", "##").doors(), 0);
    }

    private static void openDoorsCountToo() {
        MazeForms maze = new MazeForms(4, 3, 0);
        maze.make(1);
        CHECKS.due("doors() after making", maze.doors(), 17);
        Mazes.openAll(maze);
        CHECKS.due("doors() when all are open", maze.doors(), 17);
    }
}
