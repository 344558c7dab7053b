/** Promise 6: doors opened and closed. */
public final class P06SetTest {
    private static final Checks CHECKS = new Checks();

    public static void main(String[] args) {
        opensAndCloses();
        numbersFollowTheCells();
        numbersPassOverMasks();
        thereIsNoSuchDoor();
        theLastDoorIsThere();
        falseChangesNothing();
        madeDoorsAreSetToo();
        CHECKS.end();
    }

    private static void opensAndCloses() {
        MazeForms maze = new MazeForms(3, 2, 0);
        for (int door = 0; door < 7; door++) {
            CHECKS.due("closing the closed door " + door, maze.set(door, false), false);
            CHECKS.due("opening door " + door, maze.set(door, true), true);
            CHECKS.due("opening the open door " + door, maze.set(door, true), false);
        }
        CHECKS.due("open doors", Mazes.openDoors(maze, 3, 2), 7);
        for (int door = 0; door < 7; door++) {
            CHECKS.due("closing door " + door, maze.set(door, false), true);
            CHECKS.due("closing the closed door " + door, maze.set(door, false), false);
        }
        CHECKS.due("open doors in the end", Mazes.openDoors(maze, 3, 2), 0);
    }

    private static void numbersFollowTheCells() {
        String[] due = {
            "-...../......", ".|..../......", "..-.../......", "...|../......",
            ".....|/......", "....../-.....", "....../..-..."};
        for (int door = 0; door < due.length; door++) {
            MazeForms maze = new MazeForms(3, 2, 0);
            maze.set(door, true);
            CHECKS.due("door " + door, Mazes.picture(maze, 3, 2), due[door]);
        }
    }

    private static void numbersPassOverMasks() {
        String[] due = {
            ".|..../....../......", ".....|/....../......", "....../.|..../......", "....../.....|/......",
            "....../....../-.....", "....../....../..-..."};
        for (int door = 0; door < due.length; door++) {
            MazeForms maze = Mazes.masked(0, ".#.", ".#.", "...");
            maze.set(door, true);
            CHECKS.due("door " + door + " beside masks", Mazes.picture(maze, 3, 3), due[door]);
        }
    }

    private static void thereIsNoSuchDoor() {
        MazeForms maze = new MazeForms(3, 2, 0);
        int[] none = {-1, 7, 8, 264, Integer.MIN_VALUE, Integer.MAX_VALUE};
        for (int door : none) {
            CHECKS.due("set(" + door + ", true)", maze.set(door, true), false);
            CHECKS.due("set(" + door + ", false)", maze.set(door, false), false);
        }
        CHECKS.due("open doors", Mazes.openDoors(maze, 3, 2), 0);
        // Doors 5 and 6 go with the mask, though the object once had them.
        Mazes.openAll(maze);
        maze.mask(0, 0, true);
        CHECKS.due("set(5, true) of five doors", maze.set(5, true), false);
        CHECKS.due("set(5, false) of five doors", maze.set(5, false), false);
        CHECKS.due("set(4, true) of five doors", maze.set(4, true), true);
        CHECKS.due("set(0, true) without doors", new MazeForms(1, 1, 0).set(0, true), false);
    }

    private static void theLastDoorIsThere() {
        int[][] edges = {{12, 12, 264}, {12, 1, 11}, {1, 12, 11}, {2, 1, 1}, {1, 2, 1}, {2, 2, 4}};
        for (int[] edge : edges) {
            MazeForms maze = new MazeForms(edge[0], edge[1], 0);
            String what = " of " + edge[0] + " x " + edge[1];
            int last = edge[2] - 1;
            CHECKS.due("opening the last door" + what, maze.set(last, true), true);
            CHECKS.due("opening the one after it" + what, maze.set(last + 1, true), false);
            CHECKS.due("open doors" + what, Mazes.openDoors(maze, edge[0], edge[1]), 1);
            CHECKS.due("closing the one after it" + what, maze.set(last + 1, false), false);
            CHECKS.due("closing the last door" + what, maze.set(last, false), true);
        }
        CHECKS.due("set(0, true) without cells", Mazes.masked(0, "##").set(0, true), false);
        CHECKS.due("set(0, false) without cells", Mazes.masked(0, "##").set(0, false), false);
    }

    private static void falseChangesNothing() {
        MazeForms maze = new MazeForms(3, 2, 0);
        Mazes.openThese(maze, 0, 2);
        maze.path(0, 2);
        maze.set(0, true);
        maze.set(1, false);
        maze.set(-1, true);
        maze.set(7, true);
        CHECKS.due("the doors after sets that change nothing", Mazes.picture(maze, 3, 2), "-.-.../......");
        CHECKS.due("at(2) after sets that change nothing", maze.at(2), 2);
    }

    private static void madeDoorsAreSetToo() {
        MazeForms maze = new MazeForms(5, 1, 0);
        maze.make(2);
        CHECKS.due("opening what was made", maze.set(2, true), false);
        CHECKS.due("closing what was made", maze.set(2, false), true);
        CHECKS.due("open(2, 0, 1)", maze.open(2, 0, 1), false);
        CHECKS.due("parts()", maze.parts(), 2);
    }
}
