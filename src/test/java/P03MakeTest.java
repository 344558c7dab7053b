/** Promise 3: the five ways of making. */
public final class P03MakeTest {
    private static final Checks CHECKS = new Checks();

    public static void main(String[] args) {
        mazesAreTheDueOnes();
        everyWayMakesATree();
        makingBeginsAnew();
        onlyTheRegionOfTheFirstCell();
        eachStepDrawsANumber();
        combedDrawsForOneDoorToo();
        wrongWaysDoNothing();
        withoutCells();
        withoutCellsNoNumberIsDrawn();
        longWalksComeHome();
        CHECKS.end();
    }

    /**
     * The pictures are those of the run of shared/tests that makes 4 x 3 from 5, way after way. It ends
     * before the last door of the fourth, which follows from there being eleven.
     */
    private static void mazesAreTheDueOnes() {
        MazeForms maze = new MazeForms(4, 3, 5);
        String[] due = {
            "-..|-|.|/.|.|...|/-.-.-...",
            "-|-....|/-|-..|.|/..-.-...",
            "-..|.|.|/-..|.|.|/-.-.-...",
            "-|-..|.|/.|.|-|../..-.-...",
        };
        for (int way = 0; way < due.length; way++) {
            CHECKS.due("make(" + way + ")", maze.make(way), 11);
            CHECKS.due("the maze of way " + way, Mazes.picture(maze, 4, 3), due[way]);
        }
    }

    private static void everyWayMakesATree() {
        for (int seed = -20; seed < 20; seed++) {
            for (int way = 0; way <= 4; way++) {
                MazeForms maze = new MazeForms(12, 7, seed);
                CHECKS.due("make(" + way + ") of seed " + seed, maze.make(way), 83);
                CHECKS.due("isTree() of way " + way + ", seed " + seed, maze.isTree(), true);
                CHECKS.due("open doors of way " + way, Mazes.openDoors(maze, 12, 7), 83);
            }
        }
    }

    private static void makingBeginsAnew() {
        for (int way = 0; way <= 4; way++) {
            MazeForms maze = new MazeForms(6, 6, 1);
            Mazes.openAll(maze);
            CHECKS.due("make(" + way + ") on open doors", maze.make(way), 35);
            CHECKS.due("isTree() after it", maze.isTree(), true);
            String first = Mazes.picture(maze, 6, 6);
            maze.make(way);
            boolean alike = first.equals(Mazes.picture(maze, 6, 6));
            CHECKS.due("the numbers of way " + way + " begin again", alike, false);
        }
    }

    private static void onlyTheRegionOfTheFirstCell() {
        // The first cell is not cell 0, and its region is not the largest one. By the comb the last
        // region falls apart: its corner takes the door above it or that on its left, not both.
        int[] due = {3, 10, 3, 3, 9};
        for (int way = 0; way <= 4; way++) {
            MazeForms maze = Mazes.masked(4, "##.#.", ".#.#.", ".#.#.", ".#.#.", "#.#..");
            boolean everywhere = due[way] > 3;
            CHECKS.due("make(" + way + ") of regions", maze.make(way), due[way]);
            CHECKS.due("open(2, 0, 2) of way " + way, maze.open(2, 0, 2), true);
            CHECKS.due("open(2, 2, 2) of way " + way, maze.open(2, 2, 2), true);
            CHECKS.due("open(0, 1, 2) of way " + way, maze.open(0, 1, 2), everywhere);
            CHECKS.due("open(4, 0, 2) of way " + way, maze.open(4, 0, 2), everywhere);
            int corner = (maze.open(4, 4, 0) ? 1 : 0) + (maze.open(4, 4, 3) ? 1 : 0);
            CHECKS.due("doors of the corner, way " + way, corner, !everywhere ? 0 : way == 4 ? 1 : 2);
        }
        CHECKS.due("make(4) of a comb", Mazes.masked(0, "#.#", "...").make(4), 2);
        CHECKS.due("make(0) of a comb", Mazes.masked(0, "#.#", "...").make(0), 3);
        CHECKS.due("make(2) of a lone first cell", Mazes.masked(0, ".#.", "#..", "...").make(2), 0);
    }

    /** Down a column there is but one door at each step: how many numbers were drawn is seen from the next. */
    private static void eachStepDrawsANumber() {
        int[] draws = {8, 7, 8, -1, 8};
        for (int seed = 0; seed < 30; seed++) {
            for (int way = 0; way <= 4; way++) {
                MazeForms maze = new MazeForms(1, 9, seed);
                CHECKS.due("make(" + way + ") of a column", maze.make(way), 8);
                if (draws[way] >= 0) {
                    nextNumberIs(maze, seed, draws[way], "way " + way);
                }
            }
        }
    }

    private static void nextNumberIs(MazeForms maze, int seed, int drawn, String what) {
        int due = Numbers.after(drawn, seed, maze.doors());
        CHECKS.due(what + ", seed " + seed + ": the next door", Mazes.drawnDoor(maze), due);
    }

    private static void combedDrawsForOneDoorToo() {
        for (int seed = 0; seed < 30; seed++) {
            MazeForms maze = Mazes.masked(seed, "...", "#..", "..#", "#.#");
            Numbers numbers = new Numbers(seed);
            numbers.skip(3);
            boolean above = numbers.below(2) == 0;
            numbers.skip(2);
            maze.make(4);
            CHECKS.due("open(0, 0, 1) of seed " + seed, maze.open(0, 0, 1), true);
            CHECKS.due("open(1, 0, 1) of seed " + seed, maze.open(1, 0, 1), true);
            CHECKS.due("open(1, 1, 0) of seed " + seed, maze.open(1, 1, 0), true);
            CHECKS.due("open(2, 1, 0) of seed " + seed, maze.open(2, 1, 0), above);
            CHECKS.due("open(2, 1, 3) of seed " + seed, maze.open(2, 1, 3), !above);
            nextNumberIs(maze, seed, 6, "combed");
        }
    }

    private static void wrongWaysDoNothing() {
        int[] wrong = {-1, 5, 6, Integer.MIN_VALUE, Integer.MAX_VALUE};
        MazeForms maze = new MazeForms(5, 5, 8);
        MazeForms twin = new MazeForms(5, 5, 8);
        maze.make(0);
        twin.make(0);
        maze.path(0, 24);
        for (int way : wrong) {
            CHECKS.due("make(" + way + ")", maze.make(way), -1);
            CHECKS.due("the maze after it", Mazes.picture(maze, 5, 5), Mazes.picture(twin, 5, 5));
            CHECKS.due("at(0) after it", maze.at(0), 0);
        }
        maze.make(2);
        twin.make(2);
        CHECKS.due("no number was drawn", Mazes.picture(maze, 5, 5), Mazes.picture(twin, 5, 5));
    }

    private static void withoutCells() {
        MazeForms maze = Mazes.masked(3, "##", "##");
        for (int way = 0; way <= 4; way++) {
            CHECKS.due("make(" + way + ") without cells", maze.make(way), 0);
        }
        CHECKS.due("make(5) without cells", maze.make(5), -1);
        CHECKS.due("make(-1) without cells", maze.make(-1), -1);
        maze.mask(1, 1, false);
        for (int way = 0; way <= 4; way++) {
            CHECKS.due("make(" + way + ") of one cell", maze.make(way), 0);
        }
    }

    private static void withoutCellsNoNumberIsDrawn() {
        for (int seed = 0; seed < 30; seed++) {
            MazeForms maze = Mazes.masked(seed, "###", "###", "###");
            for (int way = -1; way <= 5; way++) {
                maze.make(way);
            }
            Mazes.unmaskAll(maze, 3, 3);
            nextNumberIs(maze, seed, 0, "made without cells");
        }
    }

    /** Grids on which walks are slow: a long corridor, and one that goes out of a wide room. */
    private static void longWalksComeHome() {
        String[] snake = {
            "............", "###########.", "............", ".###########", "............", "###########.",
            "............", ".###########", "............", "###########.", "............", ".###########"};
        String[] room = {
            "............", "###########.", "............", ".###########", "............", "###########.",
            "............", ".###########", "............", "............", "............", "............"};
        for (int seed = 0; seed < 100; seed++) {
            MazeForms corridor = Mazes.masked(seed, snake);
            CHECKS.due("make(3) of a corridor, seed " + seed, corridor.make(3), 77);
            CHECKS.due("isTree() of a corridor", corridor.isTree(), true);
            MazeForms wide = Mazes.masked(seed, room);
            CHECKS.due("make(3) of a room, seed " + seed, wide.make(3), 99);
            CHECKS.due("isTree() of a room", wide.isTree(), true);
        }
    }
}
