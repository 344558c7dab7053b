/** Promise 13: the grade of a path. */
public final class P13GradeTest {
    private static final Checks CHECKS = new Checks();

    public static void main(String[] args) {
        alongARow();
        besideThePath();
        onAnOpenGrid();
        nothingIsFound();
        changesEndIt();
        whatChangesNothingLeavesIt();
        pathsWithoutAStep();
        alongTheEdgeOfTheLargest();
        CHECKS.end();
    }

    private static void gradeIs(MazeForms maze, int from, int to, long due) {
        maze.path(from, to);
        CHECKS.due("grade() from " + from + " to " + to, maze.grade(), due);
    }

    private static void alongARow() {
        MazeForms maze = new MazeForms(5, 1, 0);
        maze.make(0);
        gradeIs(maze, 0, 4, 0);
        gradeIs(maze, 2, 2, 0);
        // At the beginning there is a door behind; the last cell does not count.
        gradeIs(maze, 1, 4, 1);
        gradeIs(maze, 1, 3, 1);
        gradeIs(maze, 3, 0, 1);
        gradeIs(maze, 0, 3, 0);
    }

    private static void besideThePath() {
        // Along the upper row of 4 x 2, with doors down from its cells one after the other.
        int[] down = {1, 3, 5, 6};
        int[] due = {1, 2, 3, 0};
        for (int i = 0; i < 4; i++) {
            MazeForms maze = new MazeForms(4, 2, 0);
            Mazes.openThese(maze, 0, 2, 4, down[i]);
            gradeIs(maze, 0, 3, due[i]);
        }
        MazeForms all = new MazeForms(4, 2, 0);
        Mazes.openThese(all, 0, 2, 4, 1, 3, 5, 6);
        gradeIs(all, 0, 3, 6);
        gradeIs(all, 3, 0, 6);
        gradeIs(all, 0, 4, 1);
    }

    private static void onAnOpenGrid() {
        MazeForms maze = new MazeForms(3, 3, 0);
        Mazes.openAll(maze);
        // By 0, 1, 2, 5 to 8: 1 + 1 * 2 + 0 * 3 + 1 * 4.
        gradeIs(maze, 0, 8, 7);
        // By 4 to 1: three doors of the middle one.
        gradeIs(maze, 4, 1, 3);
        // By 3, 4 to 5: 2 + 2 * 2.
        gradeIs(maze, 3, 5, 6);
    }

    /** "Over its cells but the last one": of one cell there is none. */
    private static void pathsWithoutAStep() {
        MazeForms open = new MazeForms(3, 3, 0);
        Mazes.openAll(open);
        gradeIs(open, 4, 4, 0);
        gradeIs(new MazeForms(3, 3, 0), 4, 4, 0);
        gradeIs(new MazeForms(1, 1, 0), 0, 0, 0);
        gradeIs(Mazes.masked(0, "#"), 0, 0, -1);
        gradeIs(Mazes.masked(0, "#."), 0, 0, -1);
    }

    private static void alongTheEdgeOfTheLargest() {
        MazeForms maze = new MazeForms(12, 12, 0);
        Mazes.openAll(maze);
        // By the upper edge and the right one: one door beside each cell, but of the corner, the 12th.
        gradeIs(maze, 0, 143, 22 * 23 / 2 - 12);
        gradeIs(Mazes.serpent(), 0, 132, 0);
    }

    private static void nothingIsFound() {
        MazeForms maze = new MazeForms(3, 1, 0);
        CHECKS.due("grade() at first", maze.grade(), -1);
        maze.path(0, 2);
        CHECKS.due("grade() without a path", maze.grade(), -1);
        maze.make(0);
        CHECKS.due("grade() after making", maze.grade(), -1);
        gradeIs(maze, 1, 2, 1);
        CHECKS.due("grade() again", maze.grade(), 1);
        gradeIs(maze, 1, 3, -1);
        gradeIs(maze, 1, 2, 1);
        maze.set(0, false);
        CHECKS.due("grade() after a door was closed", maze.grade(), -1);
        maze.set(0, true);
        CHECKS.due("grade() after it was opened again", maze.grade(), -1);
        gradeIs(maze, 1, 0, 1);
        maze.mask(2, 0, true);
        CHECKS.due("grade() after a mask", maze.grade(), -1);
        gradeIs(maze, 2, 2, -1);
    }

    /** Whatever the grade was: of no step, of one, of many, with doors beside the path or without. */
    private static void changesEndIt() {
        int[] ends = {0, 1, 5, 15};
        for (int to : ends) {
            for (int change = 0; change < 4; change++) {
                MazeForms maze = new MazeForms(4, 4, 1);
                Mazes.openAll(maze);
                maze.set(23, false);
                maze.path(0, to);
                CHECKS.due("a grade from 0 to " + to, maze.grade() >= 0, true);
                boolean changed = change == 0 ? maze.set(23, true)
                        : change == 1 ? maze.mask(0, 3, true)
                        : change == 2 ? maze.loops(1) == 1
                        : maze.make(2) == 15;
                CHECKS.due("change " + change, changed, true);
                CHECKS.due("grade() from 0 to " + to + " after change " + change, maze.grade(), -1);
            }
        }
    }

    private static void whatChangesNothingLeavesIt() {
        MazeForms maze = new MazeForms(4, 1, 1);
        maze.make(0);
        gradeIs(maze, 1, 3, 1);
        maze.loops(3);
        maze.loops(-1);
        maze.set(0, true);
        maze.set(3, true);
        maze.mask(0, 0, false);
        maze.mask(4, 0, true);
        maze.make(5);
        CHECKS.due("grade() after calls that change nothing", maze.grade(), 1);
    }
}
