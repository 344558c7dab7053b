/** Promise 2: masks. */
public final class P02MaskTest {
    private static final Checks CHECKS = new Checks();

    public static void main(String[] args) {
        masksOnceAndBack();
        thereIsNoSuchCell();
        cellsDoNotWrapAround();
        allCellsCanBeMasked();
        doorsGoAndComeBack();
        doorsAreClosed();
        falseChangesNothing();
        CHECKS.end();
    }

    private static void masksOnceAndBack() {
        MazeForms maze = new MazeForms(3, 2, 0);
        CHECKS.due("mask on", maze.mask(2, 1, true), true);
        CHECKS.due("mask on again", maze.mask(2, 1, true), false);
        CHECKS.due("another one on", maze.mask(1, 1, true), true);
        CHECKS.due("mask off", maze.mask(2, 1, false), true);
        CHECKS.due("mask off again", maze.mask(2, 1, false), false);
        CHECKS.due("the other one is still on", maze.mask(1, 1, true), false);
        CHECKS.due("parts()", maze.parts(), 5);
    }

    private static void thereIsNoSuchCell() {
        MazeForms maze = new MazeForms(3, 2, 0);
        int[][] none = {{-1, 0}, {0, -1}, {3, 0}, {0, 2}, {2, 2}, {3, 1}, {-1, 1}, {4, -1},
            {Integer.MIN_VALUE, 0}, {0, Integer.MIN_VALUE}, {Integer.MAX_VALUE, 1}, {1, Integer.MAX_VALUE}};
        for (int[] cell : none) {
            CHECKS.due("mask(" + cell[0] + ", " + cell[1] + ", true)", maze.mask(cell[0], cell[1], true), false);
            CHECKS.due("mask(" + cell[0] + ", " + cell[1] + ", false)", maze.mask(cell[0], cell[1], false), false);
        }
        CHECKS.due("parts()", maze.parts(), 6);
        CHECKS.due("doors()", maze.doors(), 7);
    }

    /** Of a cell that there is not, x + W y may be the number of one that there is. */
    private static void cellsDoNotWrapAround() {
        int[][] none = {{3, 0, 3}, {-1, 1, 2}, {4, 0, 4}, {-3, 1, 0}, {5, -1, 2}, {-3, 2, 3}};
        for (int[] place : none) {
            MazeForms maze = new MazeForms(3, 2, 0);
            String call = "mask(" + place[0] + ", " + place[1] + ", true)";
            CHECKS.due(call, maze.mask(place[0], place[1], true), false);
            CHECKS.due("cell " + place[2] + " after " + call, maze.path(place[2], place[2]), 0);
            CHECKS.due("doors() after " + call, maze.doors(), 7);
        }
    }

    /** From the full grid to one without cells, and back. */
    private static void allCellsCanBeMasked() {
        MazeForms maze = new MazeForms(12, 12, 0);
        for (int cell = 0; cell < 144; cell++) {
            CHECKS.due("masking cell " + cell, maze.mask(cell % 12, cell / 12, true), true);
            CHECKS.due("cells that are left", maze.ends(0), 143 - cell);
        }
        CHECKS.due("doors() without cells", maze.doors(), 0);
        CHECKS.due("masking when all are masked", maze.mask(0, 0, true), false);
        CHECKS.due("masking the last one when all are masked", maze.mask(11, 11, true), false);
        for (int cell = 143; cell >= 0; cell--) {
            CHECKS.due("unmasking cell " + cell, maze.mask(cell % 12, cell / 12, false), true);
        }
        CHECKS.due("unmasking when none is masked", maze.mask(11, 11, false), false);
        CHECKS.due("doors() of all cells", maze.doors(), 264);
        MazeForms one = new MazeForms(1, 1, 0);
        CHECKS.due("unmasking the only cell", one.mask(0, 0, false), false);
        CHECKS.due("masking the only cell", one.mask(0, 0, true), true);
        CHECKS.due("masking it again", one.mask(0, 0, true), false);
        CHECKS.due("unmasking it then", one.mask(0, 0, false), true);
    }

    private static void doorsGoAndComeBack() {
        MazeForms maze = new MazeForms(3, 3, 0);
        maze.mask(1, 1, true);
        CHECKS.due("doors() round a mask", maze.doors(), 8);
        // Of cell 1 the door below is gone, so that on the right of it is followed by that below cell 2.
        maze.set(2, true);
        maze.set(3, true);
        CHECKS.due("doors 2 and 3 round a mask", Mazes.picture(maze, 3, 3), "..-..|/....../......");
        maze.mask(1, 1, false);
        CHECKS.due("doors() without the mask", maze.doors(), 12);
        maze.set(3, true);
        CHECKS.due("door 3 without the mask", Mazes.picture(maze, 3, 3), "...|../....../......");
    }

    private static void doorsAreClosed() {
        MazeForms maze = new MazeForms(4, 4, 0);
        maze.make(1);
        maze.mask(3, 3, true);
        CHECKS.due("open doors after masking", Mazes.openDoors(maze, 4, 4), 0);
        CHECKS.due("parts() after masking", maze.parts(), 15);
        maze.make(1);
        maze.mask(3, 3, false);
        CHECKS.due("open doors after unmasking", Mazes.openDoors(maze, 4, 4), 0);
        CHECKS.due("parts() after unmasking", maze.parts(), 16);
        CHECKS.due("closed doors open once more", maze.loops(200), 24);
    }

    private static void falseChangesNothing() {
        MazeForms maze = new MazeForms(4, 4, 0);
        maze.mask(1, 2, true);
        maze.make(2);
        maze.path(0, 15);
        String before = Mazes.picture(maze, 4, 4);
        maze.mask(1, 2, true);
        maze.mask(0, 0, false);
        maze.mask(4, 0, true);
        maze.mask(0, -1, true);
        CHECKS.due("the doors after masks that change nothing", Mazes.picture(maze, 4, 4), before);
        CHECKS.due("at(0) after masks that change nothing", maze.at(0), 0);
    }
}
