/** The document's "Terms", where they name first and last ones, edges, and what there is none of. */
public final class TermsTest {
    private static final Checks CHECKS = new Checks();
    private static final int[] SEEDS = {Integer.MIN_VALUE, Integer.MIN_VALUE + 1, -7, -1, 0, 1, 2, 99, 1 << 30,
        Integer.MAX_VALUE - 1, Integer.MAX_VALUE};

    public static void main(String[] args) {
        cellsAreNumberedRowByRow();
        noneIsMaskedAtFirst();
        allDoorsAreClosedAtFirst();
        fourSidesInTheirOrder();
        rowsDoNotWrapAround();
        masksTakeDoorsAway();
        doorsAreNumberedFromZeroOn();
        theSeedIsTheFirstX();
        theNumbersGoOn();
        otherCallsDrawNoNumber();
        makingClosesAllDoors();
        theFirstCellIsTheLeastFreeOne();
        deepGoesBackToTheFirstCell();
        setsDrawOneNumberLessThanDoors();
        grownStopsWhereNoDoorLeadsOn();
        walkedKeepsToTheRegion();
        walkedKeepsTheLastDoor();
        combedDrawsNothingForNone();
        oneCellDrawsNothing();
        twoCellsDrawOneNumber();
        CHECKS.end();
    }

    /** "x from 0 to W - 1, y from 0 to H - 1, numbered x + W y": cell 0 is the first, W H - 1 the last. */
    private static void cellsAreNumberedRowByRow() {
        int[][] edges = {{1, 1}, {5, 3}, {3, 5}, {12, 1}, {1, 12}, {12, 12}};
        for (int[] edge : edges) {
            int w = edge[0];
            int h = edge[1];
            for (int cell = 0; cell < w * h; cell++) {
                MazeForms maze = new MazeForms(w, h, 0);
                maze.mask(cell % w, cell / w, true);
                String what = "cell " + cell + " of " + w + " x " + h;
                CHECKS.due(what + " is masked", maze.path(cell, cell), -1);
                CHECKS.due(what + ": the one after it", maze.path(cell + 1, cell + 1), cell + 1 < w * h ? 0 : -1);
                CHECKS.due(what + ": the one before it", maze.path(cell - 1, cell - 1), cell > 0 ? 0 : -1);
            }
        }
    }

    /** "Some are MASKED (none at first)". */
    private static void noneIsMaskedAtFirst() {
        MazeForms maze = new MazeForms(12, 12, 0);
        for (int cell = 0; cell < 144; cell++) {
            CHECKS.due("path from the new cell " + cell + " to itself", maze.path(cell, cell), 0);
        }
    }

    /** "A DOOR, open or not (at first not)". */
    private static void allDoorsAreClosedAtFirst() {
        MazeForms maze = new MazeForms(12, 12, 0);
        for (int door = 0; door < 264; door++) {
            CHECKS.due("closing the new door " + door, maze.set(door, false), false);
        }
    }

    /** "SIDES of a cell: 0 above, 1 right, 2 below, 3 left". */
    private static void fourSidesInTheirOrder() {
        // Of the cell in the middle of 3 x 3: above is door 3, right 7, below 8, left 5.
        int[] doors = {3, 7, 8, 5};
        int[] cells = {1, 5, 7, 3};
        for (int side = 0; side < 4; side++) {
            MazeForms maze = new MazeForms(3, 3, 0);
            maze.set(doors[side], true);
            for (int other = 0; other < 4; other++) {
                CHECKS.due("open(1, 1, " + other + ") for side " + side, maze.open(1, 1, other), side == other);
                CHECKS.due("path(4, " + cells[other] + ")", maze.path(4, cells[other]), side == other ? 1 : -1);
            }
        }
    }

    /** "Between two cells side by side": the end of a row is not beside the beginning of the next. */
    private static void rowsDoNotWrapAround() {
        for (int width = 2; width <= 12; width++) {
            MazeForms maze = new MazeForms(width, 12, 0);
            Mazes.openAll(maze);
            CHECKS.due("right of row 0, width " + width, maze.open(width - 1, 0, 1), false);
            CHECKS.due("left of row 1, width " + width, maze.open(0, 1, 3), false);
            CHECKS.due("path over the edge, width " + width, maze.path(width - 1, width), width);
            CHECKS.due("path from bottom to top, width " + width, maze.path(11 * width, 0), 11);
        }
    }

    /** "Neither of them masked". */
    private static void masksTakeDoorsAway() {
        CHECKS.due("doors() of .#", Mazes.masked(0, ".#").doors(), 0);
        CHECKS.due("doors() of #.", Mazes.masked(0, "#.").doors(), 0);
        CHECKS.due("doors() of ##", Mazes.masked(0, "##").doors(), 0);
        CHECKS.due("doors() of # over .", Mazes.masked(0, "#", ".").doors(), 0);
        CHECKS.due("doors() of . over #", Mazes.masked(0, ".", "#").doors(), 0);
        CHECKS.due("doors() of # over #", Mazes.masked(0, "#", "#").doors(), 0);
        CHECKS.due("doors() of ..#", Mazes.masked(0, "..#").doors(), 1);
    }

    /** "DOORS are numbered from 0 on: .. of each one that on its right, then that below". */
    private static void doorsAreNumberedFromZeroOn() {
        // On 12 x 12: door, x, y, side. Of the last cell of a row there is but that below, of the last row none.
        int[][] places = {{0, 0, 0, 1}, {1, 0, 0, 2}, {2, 1, 0, 1}, {21, 10, 0, 2}, {22, 11, 0, 2}, {23, 0, 1, 1},
            {24, 0, 1, 2}, {252, 11, 10, 2}, {253, 0, 11, 1}, {262, 9, 11, 1}, {263, 10, 11, 1}};
        for (int[] place : places) {
            MazeForms maze = new MazeForms(12, 12, 0);
            String what = "door " + place[0] + " of 12 x 12";
            CHECKS.due(what + " is opened", maze.set(place[0], true), true);
            CHECKS.due(what + " is there", maze.open(place[1], place[2], place[3]), true);
            CHECKS.due(what + " is the only one", maze.parts(), 143);
        }
        for (int door = 0; door < 11; door++) {
            MazeForms row = new MazeForms(12, 1, 0);
            row.set(door, true);
            CHECKS.due("door " + door + " of a row", row.open(door, 0, 1), true);
            MazeForms column = new MazeForms(1, 12, 0);
            column.set(door, true);
            CHECKS.due("door " + door + " of a column", column.open(0, door, 2), true);
        }
    }

    /** "X is the seed at first", a negative one too; "64 bits", "the upper 31 bits of X modulo n". */
    private static void theSeedIsTheFirstX() {
        for (int seed : SEEDS) {
            MazeForms maze = new MazeForms(12, 12, seed);
            maze.loops(1);
            CHECKS.due("the first door of 264, seed " + seed, Mazes.closeAll(maze), Numbers.after(0, seed, 264));
            MazeForms few = new MazeForms(4, 1, seed);
            CHECKS.due("the first door of 3, seed " + seed, Mazes.drawnDoor(few), Numbers.after(0, seed, 3));
        }
    }

    /** "X goes on from call to call". */
    private static void theNumbersGoOn() {
        for (int seed : SEEDS) {
            MazeForms maze = new MazeForms(3, 3, seed);
            Numbers numbers = new Numbers(seed);
            for (int call = 0; call < 9; call++) {
                CHECKS.due("number " + call + " of seed " + seed, Mazes.drawnDoor(maze), numbers.below(12));
            }
        }
    }

    private static void otherCallsDrawNoNumber() {
        for (int seed : SEEDS) {
            MazeForms maze = new MazeForms(3, 3, seed);
            maze.mask(2, 2, true);
            maze.mask(2, 2, false);
            maze.mask(2, 2, false);
            maze.set(3, true);
            maze.path(1, 4);
            maze.at(1);
            maze.grade();
            maze.doors();
            maze.open(1, 0, 2);
            maze.ends(1);
            maze.parts();
            maze.isTree();
            maze.trees(0);
            maze.make(5);
            maze.loops(201);
            maze.loops(0);
            CHECKS.due("the first door, seed " + seed, Mazes.drawnDoor(maze), Numbers.after(0, seed, 12));
        }
    }

    /** "MAKING closes all doors, then opens some": on a grid that is full of open doors. */
    private static void makingClosesAllDoors() {
        for (int way = 0; way <= 4; way++) {
            MazeForms full = new MazeForms(6, 5, 3);
            Mazes.openAll(full);
            MazeForms fresh = new MazeForms(6, 5, 3);
            CHECKS.due("make(" + way + ") of a full grid", full.make(way), 29);
            fresh.make(way);
            CHECKS.due("its maze, way " + way, Mazes.picture(full, 6, 5), Mazes.picture(fresh, 6, 5));
        }
        // Outside of the region too, where nothing is opened again.
        MazeForms apart = Mazes.masked(0, ".#..", ".#..");
        for (int way = 0; way <= 3; way += way == 0 ? 2 : 1) {
            Mazes.openAll(apart);
            CHECKS.due("make(" + way + ") beside a region", apart.make(way), 1);
            CHECKS.due("the doors beside the region, way " + way, Mazes.openDoors(apart, 4, 2), 1);
        }
    }

    /** "The FIRST CELL is the least that is not masked": it may be the last one of the grid, or alone. */
    private static void theFirstCellIsTheLeastFreeOne() {
        for (int way = 0; way <= 4; way++) {
            CHECKS.due("make(" + way + ") of the last cell alone", Mazes.masked(0, "###", "##.").make(way), 0);
            MazeForms late = Mazes.masked(0, "####", "##..");
            CHECKS.due("make(" + way + ") of the last two cells", late.make(way), 1);
            CHECKS.due("open(3, 1, 3) of way " + way, late.open(3, 1, 3), true);
            // Cell 2 is first, though cell 4 has the greater region.
            MazeForms alone = Mazes.masked(0, "##.#", "..#.", "...#");
            boolean everywhere = way == 1 || way == 4;
            CHECKS.due("make(" + way + ") of a lone first cell", alone.make(way), everywhere ? 4 : 0);
        }
    }

    /** "Until one is back at the first cell and there is none": also out of the longest dead end. */
    private static void deepGoesBackToTheFirstCell() {
        // The first cell's branch to the right is a corridor, or that below: whichever is gone first is left again.
        for (int seed = 0; seed < 20; seed++) {
            MazeForms maze = Mazes.masked(seed, "............", ".##########.", ".##########.", ".####.......");
            CHECKS.due("make(0) of two corridors, seed " + seed, maze.make(0), 23);
            CHECKS.due("isTree() of two corridors, seed " + seed, maze.isTree(), true);
        }
        MazeForms corridor = new MazeForms(12, 1, 5);
        CHECKS.due("make(0) of a row", corridor.make(0), 11);
        CHECKS.due("numbers of a row", nextAfterUnmasking(corridor, 12, 1), Numbers.after(11, 5, 11));
    }

    /** "For i from the last one down to 1": a row of d doors draws d - 1 numbers, none for none or one. */
    private static void setsDrawOneNumberLessThanDoors() {
        String[][] grids = {{"#.#", ".#.", "#.#"}, {"#..", ".##", "#.#"}, {"...", "###", "###"}, {"...", "..#", "###"},
            {"...", "...", "..."}};
        int[] draws = {0, 0, 1, 4, 11};
        for (int i = 0; i < grids.length; i++) {
            for (int seed : SEEDS) {
                MazeForms maze = Mazes.masked(seed, grids[i]);
                maze.make(1);
                String what = "the door after make(1) of " + String.join("/", grids[i]) + ", seed " + seed;
                CHECKS.due(what, nextAfterUnmasking(maze, 3, 3), Numbers.after(draws[i], seed, 12));
            }
        }
    }

    /** "As long as doors lead from cells of the tree to others". */
    private static void grownStopsWhereNoDoorLeadsOn() {
        for (int seed : SEEDS) {
            MazeForms maze = Mazes.masked(seed, "..#", "###", "...");
            CHECKS.due("make(2) of a region of two, seed " + seed, maze.make(2), 1);
            CHECKS.due("open(0, 2, 1)", maze.open(0, 2, 1), false);
            CHECKS.due("numbers of it", nextAfterUnmasking(maze, 3, 3), Numbers.after(1, seed, 12));
        }
    }

    /** "For each cell of its region in order that is not of the tree". */
    private static void walkedKeepsToTheRegion() {
        for (int seed : SEEDS) {
            // A lone cell of another region has no doors at all, by which a walk could leave it.
            MazeForms maze = Mazes.masked(seed, "..#", "##.", ".#.");
            CHECKS.due("make(3) of a region of two, seed " + seed, maze.make(3), 1);
            CHECKS.due("open(2, 1, 2)", maze.open(2, 1, 2), false);
            CHECKS.due("numbers of it", nextAfterUnmasking(maze, 3, 3), Numbers.after(1, seed, 12));
        }
    }

    /** "The door by which the walk left it last is kept": a walk that comes round leaves no ring. */
    private static void walkedKeepsTheLastDoor() {
        for (int seed = 0; seed < 40; seed++) {
            MazeForms maze = new MazeForms(2, 2, seed);
            maze.make(3);
            Numbers numbers = new Numbers(seed);
            boolean[] tree = {true, false, false, false};
            // The neighbours of the cells of 2 x 2 in the order of their sides.
            int[][] beside = {{1, 2}, {3, 0}, {0, 3}, {1, 2}};
            boolean[][] open = new boolean[4][4];
            for (int start = 1; start < 4; start++) {
                int[] left = new int[4];
                for (int here = start; !tree[here]; here = left[here]) {
                    left[here] = beside[here][numbers.below(2)];
                }
                for (int here = start; !tree[here]; here = left[here]) {
                    open[here][left[here]] = true;
                    open[left[here]][here] = true;
                    tree[here] = true;
                }
            }
            CHECKS.due("right of 0, seed " + seed, maze.open(0, 0, 1), open[0][1]);
            CHECKS.due("below 0, seed " + seed, maze.open(0, 0, 2), open[0][2]);
            CHECKS.due("below 1, seed " + seed, maze.open(1, 0, 2), open[1][3]);
            CHECKS.due("right of 2, seed " + seed, maze.open(0, 1, 1), open[2][3]);
        }
    }

    /** "None when there are none; no number is drawn then, but one is when there is one". */
    private static void combedDrawsNothingForNone() {
        String[][] grids = {{".#.", "#.#", ".#."}, {"#..", "..#", "###"}, {"...", "###", "..."}, {"..#", "..#", "###"}};
        int[] draws = {0, 2, 4, 3};
        for (int i = 0; i < grids.length; i++) {
            for (int seed : SEEDS) {
                MazeForms maze = Mazes.masked(seed, grids[i]);
                String what = "make(4) of " + String.join("/", grids[i]) + ", seed " + seed;
                CHECKS.due(what, maze.make(4), draws[i]);
                CHECKS.due("numbers of " + what, nextAfterUnmasking(maze, 3, 3), Numbers.after(draws[i], seed, 12));
            }
        }
    }

    private static void oneCellDrawsNothing() {
        for (int seed : SEEDS) {
            MazeForms maze = Mazes.masked(seed, "###", "#.#", "###");
            for (int way = 0; way <= 4; way++) {
                CHECKS.due("make(" + way + ") of one cell", maze.make(way), 0);
            }
            CHECKS.due("numbers of one cell", nextAfterUnmasking(maze, 3, 3), Numbers.after(0, seed, 12));
        }
    }

    /** A number below 1 is 0, and is drawn all the same; only a row of one door is not shuffled. */
    private static void twoCellsDrawOneNumber() {
        int[] draws = {1, 0, 1, 1, 1};
        for (int seed : SEEDS) {
            for (int way = 0; way <= 4; way++) {
                MazeForms maze = Mazes.masked(seed, "###", "#..", "###");
                CHECKS.due("make(" + way + ") of two cells", maze.make(way), 1);
                String what = "numbers of two cells, way " + way + ", seed " + seed;
                CHECKS.due(what, nextAfterUnmasking(maze, 3, 3), Numbers.after(draws[way], seed, 12));
            }
        }
    }

    private static int nextAfterUnmasking(MazeForms maze, int width, int height) {
        Mazes.unmaskAll(maze, width, height);
        return Mazes.drawnDoor(maze);
    }
}
