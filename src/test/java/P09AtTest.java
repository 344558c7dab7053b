/** Promise 9: the cells of the path found latest. */
public final class P09AtTest {
    private static final Checks CHECKS = new Checks();

    public static void main(String[] args) {
        lesserSidesFirst();
        theFirstCellThatDiffersDecides();
        wrongPlaces();
        theLongest();
        theLatestCounts();
        changesEndIt();
        twoChangesEndItToo();
        whatChangesNothingLeavesIt();
        foundAgainAfterAChange();
        CHECKS.end();
    }

    private static void cellsAre(String what, MazeForms maze, int... due) {
        for (int k = 0; k < due.length; k++) {
            CHECKS.due(what + ": at(" + k + ")", maze.at(k), due[k]);
        }
        CHECKS.due(what + ": at(" + due.length + ")", maze.at(due.length), -1);
        CHECKS.due(what + ": at(-1)", maze.at(-1), -1);
    }

    /** On an open grid: above before right before below before left. */
    private static void lesserSidesFirst() {
        MazeForms maze = new MazeForms(3, 3, 0);
        Mazes.openAll(maze);
        maze.path(0, 8);
        cellsAre("right before below", maze, 0, 1, 2, 5, 8);
        maze.path(8, 0);
        cellsAre("above before left", maze, 8, 5, 2, 1, 0);
        maze.path(2, 6);
        cellsAre("below before left", maze, 2, 5, 8, 7, 6);
        maze.path(6, 2);
        cellsAre("above before right", maze, 6, 3, 0, 1, 2);
        maze.path(4, 4);
        cellsAre("no step", maze, 4);
    }

    private static void theFirstCellThatDiffersDecides() {
        // Of the two ways round, that which begins by the lesser side goes by the greater ones later.
        MazeForms maze = Mazes.masked(0, "...", ".#.", "...");
        Mazes.openAll(maze);
        maze.path(1, 7);
        cellsAre("right at first", maze, 1, 2, 5, 8, 7);
        maze.path(7, 1);
        cellsAre("right at first, upward", maze, 7, 8, 5, 2, 1);
        maze.path(3, 5);
        cellsAre("above at first", maze, 3, 0, 1, 2, 5);
        maze.path(5, 3);
        cellsAre("above at first, leftward", maze, 5, 2, 1, 0, 3);
        maze.set(0, false);
        maze.path(3, 5);
        cellsAre("one way is left", maze, 3, 6, 7, 8, 5);
        // A lesser side that leads to no shortest path is passed over.
        MazeForms trap = new MazeForms(3, 2, 0);
        Mazes.openThese(trap, 0, 1, 2, 5, 6);
        trap.path(0, 5);
        cellsAre("past a dead end", trap, 0, 3, 4, 5);
    }

    private static void wrongPlaces() {
        MazeForms maze = new MazeForms(4, 1, 0);
        cellsAre("before anything", maze);
        maze.make(0);
        cellsAre("before any path", maze);
        maze.path(3, 0);
        cellsAre("a row", maze, 3, 2, 1, 0);
        int[] wrong = {-1, 4, 5, 144, Integer.MIN_VALUE, Integer.MAX_VALUE};
        for (int k : wrong) {
            CHECKS.due("at(" + k + ")", maze.at(k), -1);
        }
    }

    /** Through all cells of the largest grid: row by row, each second one backwards. */
    private static void theLongest() {
        MazeForms maze = Mazes.serpent();
        maze.path(0, 132);
        int[] due = new int[144];
        for (int k = 0; k < 144; k++) {
            int row = k / 12;
            due[k] = 12 * row + (row % 2 == 0 ? k % 12 : 11 - k % 12);
        }
        cellsAre("the longest path", maze, due);
        CHECKS.due("at(145) of the longest path", maze.at(145), -1);
    }

    private static void theLatestCounts() {
        MazeForms maze = new MazeForms(4, 1, 0);
        maze.make(0);
        maze.path(0, 3);
        maze.path(2, 1);
        cellsAre("the second path", maze, 2, 1);
        maze.path(3, 0);
        cellsAre("the third path", maze, 3, 2, 1, 0);
        maze.path(1, 3);
        cellsAre("the fourth path", maze, 1, 2, 3);
        maze.path(0, 7);
        cellsAre("after none was found", maze);
    }

    private static MazeForms withPath() {
        MazeForms maze = new MazeForms(3, 3, 7);
        maze.make(4);
        maze.path(0, 1);
        CHECKS.due("at(1) of the path", maze.at(1), 1);
        return maze;
    }

    private static void isGone(String what, MazeForms maze) {
        CHECKS.due("at(0) after " + what, maze.at(0), -1);
        CHECKS.due("at(1) after " + what, maze.at(1), -1);
        CHECKS.due("grade() after " + what, maze.grade(), -1);
    }

    private static void changesEndIt() {
        MazeForms masked = withPath();
        masked.mask(2, 2, true);
        isGone("a mask", masked);
        masked.mask(2, 2, false);
        isGone("a mask and back", masked);
        for (int way = 0; way <= 4; way++) {
            MazeForms made = withPath();
            made.make(way);
            isGone("make(" + way + ")", made);
        }
        MazeForms looped = withPath();
        CHECKS.due("loops(1)", looped.loops(1), 1);
        isGone("loops(1)", looped);
        for (int door = 0; door < 12; door++) {
            MazeForms set = withPath();
            boolean opened = set.set(door, true);
            CHECKS.due("door " + door + " changes", opened || set.set(door, false), true);
            isGone("door " + door + " changed", set);
            set.set(door, !opened);
            isGone("door " + door + " changed back", set);
        }
        // Masks and doors away from the path, and a path of no step, are no exception.
        MazeForms still = new MazeForms(3, 3, 7);
        still.path(4, 4);
        still.mask(0, 0, true);
        isGone("a mask elsewhere", still);
        makingEndsItAlways();
    }

    /** Also where the doors are in the end as they were, or there are none: all were closed in between. */
    private static void makingEndsItAlways() {
        for (int way = 0; way <= 4; way++) {
            MazeForms row = new MazeForms(4, 1, 0);
            row.make(0);
            row.path(0, 3);
            row.make(way);
            isGone("the same doors made again by way " + way, row);
            MazeForms one = new MazeForms(1, 1, 0);
            one.path(0, 0);
            one.make(way);
            isGone("making without doors by way " + way, one);
        }
    }

    private static boolean change(MazeForms maze, int kind) {
        return switch (kind) {
            case 0 -> maze.set(0, false) || maze.set(0, true);
            case 1 -> maze.mask(2, 2, true) || maze.mask(2, 2, false);
            case 2 -> maze.loops(1) == 1;
            default -> maze.make(0) > 0;
        };
    }

    /** A second change, of the same kind or another, does not bring back what the first one ended. */
    private static void twoChangesEndItToo() {
        for (int first = 0; first < 4; first++) {
            for (int second = 0; second < 4; second++) {
                MazeForms maze = withPath();
                String what = "changes of kinds " + first + " and " + second;
                CHECKS.due(what, change(maze, first) && change(maze, second), true);
                isGone(what, maze);
            }
        }
    }

    /** "Since" the path was found latest: changes before do not matter, nor paths that were found before. */
    private static void foundAgainAfterAChange() {
        MazeForms maze = withPath();
        maze.set(0, false);
        maze.set(0, true);
        isGone("a door closed and opened", maze);
        maze.path(1, 0);
        cellsAre("found again", maze, 1, 0);
        maze.mask(2, 2, true);
        isGone("a mask", maze);
        maze.path(1, 0);
        isGone("a path that there is no more", maze);
        maze.path(1, 1);
        cellsAre("found after a mask", maze, 1);
        maze.make(0);
        maze.path(1, 1);
        cellsAre("found after making", maze, 1);
        maze.loops(1);
        maze.path(1, 1);
        cellsAre("found after loops", maze, 1);
    }

    private static void whatChangesNothingLeavesIt() {
        MazeForms maze = withPath();
        maze.mask(3, 0, true);
        maze.mask(0, 0, false);
        maze.make(5);
        maze.make(-1);
        maze.set(-1, true);
        maze.set(12, true);
        maze.set(0, true);
        maze.loops(-1);
        maze.loops(201);
        maze.loops(0);
        maze.open(0, 0, 1);
        maze.doors();
        maze.ends(1);
        maze.parts();
        maze.isTree();
        maze.grade();
        maze.trees(0);
        maze.at(9);
        cellsAre("after calls that change nothing", maze, 0, 1);
        MazeForms full = new MazeForms(2, 2, 0);
        Mazes.openAll(full);
        full.path(0, 3);
        full.loops(5);
        cellsAre("after loops without closed doors", full, 0, 1, 3);
    }
}
