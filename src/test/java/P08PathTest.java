/** Promise 8: how long a shortest path is. */
public final class P08PathTest {
    private static final Checks CHECKS = new Checks();

    public static void main(String[] args) {
        alongOpenDoors();
        theShortestOfTwo();
        roundMasks();
        thereIsNone();
        wrongCells();
        nothingIsFoundThen();
        toTheCellItself();
        withoutCells();
        theLongest();
        CHECKS.end();
    }

    private static void alongOpenDoors() {
        for (int from = 0; from < 144; from += 7) {
            MazeForms maze = new MazeForms(12, 12, 0);
            Mazes.openAll(maze);
            for (int to = 0; to < 144; to += 5) {
                int due = Math.abs(from % 12 - to % 12) + Math.abs(from / 12 - to / 12);
                CHECKS.due("path(" + from + ", " + to + ")", maze.path(from, to), due);
            }
        }
        MazeForms snake = Mazes.masked(0, "............", "###########.", "............", ".###########",
                "............");
        Mazes.openAll(snake);
        CHECKS.due("path(0, 59) of a corridor", snake.path(0, 59), 37);
        CHECKS.due("path(59, 0) of a corridor", snake.path(59, 0), 37);
    }

    private static void theShortestOfTwo() {
        // A ring of eight cells: three doors to go one way, five the other, until one door is closed.
        MazeForms maze = Mazes.masked(0, "...", ".#.", "...");
        Mazes.openAll(maze);
        CHECKS.due("path(0, 8) of a ring", maze.path(0, 8), 4);
        CHECKS.due("path(0, 5) of a ring", maze.path(0, 5), 3);
        maze.set(2, false);
        CHECKS.due("path(0, 5) of a cut ring", maze.path(0, 5), 5);
        CHECKS.due("path(1, 2) of a cut ring", maze.path(1, 2), 7);
    }

    private static void roundMasks() {
        MazeForms maze = Mazes.masked(0, "...", "##.", "...");
        Mazes.openAll(maze);
        CHECKS.due("path(0, 6)", maze.path(0, 6), 6);
        CHECKS.due("path(6, 0)", maze.path(6, 0), 6);
    }

    private static void thereIsNone() {
        MazeForms maze = new MazeForms(3, 3, 0);
        CHECKS.due("path(0, 1) by a closed door", maze.path(0, 1), -1);
        CHECKS.due("path(0, 0)", maze.path(0, 0), 0);
        CHECKS.due("path(8, 8)", maze.path(8, 8), 0);
        maze.set(0, true);
        CHECKS.due("path(0, 1) by an open one", maze.path(0, 1), 1);
        CHECKS.due("path(1, 0) back", maze.path(1, 0), 1);
        CHECKS.due("path(0, 2)", maze.path(0, 2), -1);
        // Side by side in number, but not in the grid.
        Mazes.openAll(maze);
        CHECKS.due("path(2, 3) from edge to edge", maze.path(2, 3), 3);
    }

    private static void wrongCells() {
        MazeForms maze = Mazes.masked(0, "...", ".#.", "...");
        Mazes.openAll(maze);
        int[] wrong = {-1, 4, 9, 10, 143, Integer.MIN_VALUE, Integer.MAX_VALUE};
        for (int cell : wrong) {
            CHECKS.due("path(0, " + cell + ")", maze.path(0, cell), -1);
            CHECKS.due("path(" + cell + ", 0)", maze.path(cell, 0), -1);
            CHECKS.due("path(" + cell + ", " + cell + ")", maze.path(cell, cell), -1);
        }
        CHECKS.due("path(0, 8) after them", maze.path(0, 8), 4);
    }

    private static void toTheCellItself() {
        MazeForms maze = Mazes.masked(0, ".#", "..");
        CHECKS.due("path(0, 0) by closed doors", maze.path(0, 0), 0);
        CHECKS.due("at(0) of it", maze.at(0), 0);
        CHECKS.due("at(1) of it", maze.at(1), -1);
        CHECKS.due("path(3, 3) of the last cell", maze.path(3, 3), 0);
        CHECKS.due("at(0) of it", maze.at(0), 3);
        CHECKS.due("path(1, 1) of a masked one", maze.path(1, 1), -1);
        CHECKS.due("at(0) of it", maze.at(0), -1);
        CHECKS.due("path(4, 4) behind the last one", maze.path(4, 4), -1);
        CHECKS.due("path(-1, -1) before the first one", maze.path(-1, -1), -1);
        MazeForms one = new MazeForms(1, 1, 0);
        CHECKS.due("path(0, 0) of one cell", one.path(0, 0), 0);
        CHECKS.due("path(0, 1) of one cell", one.path(0, 1), -1);
        CHECKS.due("path(1, 0) of one cell", one.path(1, 0), -1);
    }

    private static void withoutCells() {
        MazeForms maze = Mazes.masked(0, "##", "##");
        for (int from = -1; from <= 4; from++) {
            for (int to = -1; to <= 4; to++) {
                CHECKS.due("path(" + from + ", " + to + ") without cells", maze.path(from, to), -1);
            }
        }
        CHECKS.due("at(0) without cells", maze.at(0), -1);
        CHECKS.due("grade() without cells", maze.grade(), -1);
    }

    private static void theLongest() {
        MazeForms maze = Mazes.serpent();
        CHECKS.due("path(0, 132) through all cells", maze.path(0, 132), 143);
        CHECKS.due("path(132, 0) back", maze.path(132, 0), 143);
        maze.set(131, false);
        CHECKS.due("isTree() without a door", maze.isTree(), false);
        CHECKS.due("path(0, 132) without a door", maze.path(0, 132), -1);
    }

    private static void nothingIsFoundThen() {
        int[][] without = {{0, 4}, {4, 0}, {-1, 0}, {0, 9}, {4, 4}, {0, 8}};
        for (int[] ends : without) {
            MazeForms maze = Mazes.masked(0, "...", ".#.", "...");
            Mazes.openThese(maze, 0, 2);
            CHECKS.due("path(0, 2)", maze.path(0, 2), 2);
            CHECKS.due("at(2)", maze.at(2), 2);
            CHECKS.due("path(" + ends[0] + ", " + ends[1] + ")", maze.path(ends[0], ends[1]), -1);
            CHECKS.due("at(0) after it", maze.at(0), -1);
            CHECKS.due("at(2) after it", maze.at(2), -1);
            CHECKS.due("grade() after it", maze.grade(), -1);
        }
    }
}
