import java.util.ArrayList;
import java.util.Collections;
import java.util.List;

/** The five ways, number by number, on grids where it can be told beforehand what each number does. */
public final class WaysTest {
    private static final Checks CHECKS = new Checks();

    public static void main(String[] args) {
        deepGoesBySidesInOrder();
        deepGoesBackToWhereItCameFrom();
        setsGoAlongTheRow();
        grownTakesDoorsInOrder();
        walkedGoesBySidesInOrder();
        walkedBeginsAtTheCellsInOrder();
        combedTakesAboveBeforeLeft();
        eachWayAfterEachOther();
        nothingIsLeftOfMazesBefore();
        CHECKS.end();
    }

    /**
     * A corridor leads from the first cell into a ring. Where it comes in there are two sides to go on by,
     * and back at that cell the ring stays closed: of its two doors there just that gone by is open.
     */
    private static void deepGoesBySidesInOrder() {
        ringGoneBy(0, 0, 0, 1, 2, "...", ".#.", "...");
        ringGoneBy(1, 1, 1, 1, 3, "#.#", "...", ".#.", "...");
        ringGoneBy(1, 2, 1, 2, 3, "##.", "...", ".#.", "...");
        ringGoneBy(5, 2, 3, 0, 1, ".####", ".#...", ".#.#.", ".....");
        ringGoneBy(5, 2, 3, 0, 3, "####.", "...#.", ".#.#.", ".....");
        ringGoneBy(3, 2, 1, 0, 2, ".#...", "...#.", "##...");
    }

    private static void ringGoneBy(int steps, int x, int y, int lesser, int greater, String... rows) {
        for (int seed = 0; seed < 12; seed++) {
            MazeForms maze = Mazes.masked(seed, rows);
            String what = String.join("/", rows) + ", seed " + seed;
            CHECKS.due("make(0) of " + what, maze.make(0), maze.doors() - 1);
            boolean first = Numbers.after(steps, seed, 2) == 0;
            CHECKS.due("side " + lesser + " of the ring in " + what, maze.open(x, y, lesser), first);
            CHECKS.due("side " + greater + " of the ring in " + what, maze.open(x, y, greater), !first);
        }
    }

    /** From the end of an arm it goes back to the middle: there are three numbers then, below 3, 2 and 1. */
    private static void deepGoesBackToWhereItCameFrom() {
        for (int seed = 0; seed < 12; seed++) {
            MazeForms maze = Mazes.masked(seed, "#.#", "...", "#.#");
            CHECKS.due("make(0) of a cross, seed " + seed, maze.make(0), 4);
            CHECKS.due("numbers of a cross, seed " + seed, Mazes.drawnDoor(maze), Numbers.after(4, seed, 4));
        }
    }

    /** Two rings, of which each stays closed at the one of its doors that comes last in the row. */
    private static void setsGoAlongTheRow() {
        for (int seed = 0; seed < 40; seed++) {
            MazeForms maze = Mazes.masked(seed, "..#..", "..#..");
            List<Integer> row = new ArrayList<>(List.of(0, 1, 2, 3, 4, 5, 6, 7));
            Numbers numbers = new Numbers(seed);
            for (int i = 7; i >= 1; i--) {
                Collections.swap(row, i, numbers.below(i + 1));
            }
            // Right of cell 0, below it and below cell 1, and right of cell 5 are the doors of the left one.
            List<Integer> left = new ArrayList<>(row);
            left.retainAll(List.of(0, 1, 2, 6));
            List<Integer> right = new ArrayList<>(row);
            right.retainAll(List.of(3, 4, 5, 7));
            CHECKS.due("make(1) of two rings, seed " + seed, maze.make(1), 6);
            for (int door = 0; door < 8; door++) {
                boolean closed = door == left.get(3) || door == right.get(3);
                CHECKS.due("door " + door + " is closed, seed " + seed, maze.set(door, true), closed);
            }
        }
    }

    private static void grownTakesDoorsInOrder() {
        // The doors of 3 x 2, by their cells.
        int[][] cells = {{0, 1}, {0, 3}, {1, 2}, {1, 4}, {2, 5}, {3, 4}, {4, 5}};
        for (int seed = 0; seed < 40; seed++) {
            MazeForms maze = new MazeForms(3, 2, seed);
            Numbers numbers = new Numbers(seed);
            boolean[] tree = {true, false, false, false, false, false};
            boolean[] open = new boolean[7];
            for (int step = 0; step < 5; step++) {
                List<Integer> out = new ArrayList<>();
                for (int door = 0; door < 7; door++) {
                    if (tree[cells[door][0]] != tree[cells[door][1]]) {
                        out.add(door);
                    }
                }
                int door = out.get(numbers.below(out.size()));
                open[door] = true;
                tree[cells[door][0]] = true;
                tree[cells[door][1]] = true;
            }
            CHECKS.due("make(2) of 3 x 2, seed " + seed, maze.make(2), 5);
            for (int door = 0; door < 7; door++) {
                CHECKS.due("door " + door + " is closed, seed " + seed, maze.set(door, true), !open[door]);
            }
        }
    }

    /** On a cross all doors are opened, but how many numbers that takes tells where the walks went. */
    private static void walkedGoesBySidesInOrder() {
        for (int seed = 0; seed < 60; seed++) {
            MazeForms maze = Mazes.masked(seed, "#.#", "...", "#.#");
            Numbers numbers = new Numbers(seed);
            // From the arm on the left until it comes to the one above; the other two are beside the tree then.
            int[] beside = {1, 5, 7, 3};
            int here = 3;
            while (here != 1) {
                here = here == 4 ? beside[numbers.below(4)] : 4 + numbers.below(1);
            }
            numbers.skip(2);
            CHECKS.due("make(3) of a cross, seed " + seed, maze.make(3), 4);
            CHECKS.due("numbers of a cross, seed " + seed, Mazes.drawnDoor(maze), numbers.below(4));
        }
    }

    /** In a row the walk of the second cell decides how many numbers there are before that of the third. */
    private static void walkedBeginsAtTheCellsInOrder() {
        for (int seed = 0; seed < 40; seed++) {
            MazeForms maze = new MazeForms(5, 1, seed);
            Numbers numbers = new Numbers(seed);
            for (int start = 1; start < 5; start++) {
                int here = start;
                while (here >= start) {
                    boolean atTheEnd = here == 4;
                    // Right is the lesser side.
                    here += atTheEnd ? -1 - numbers.below(1) : 1 - 2 * numbers.below(2);
                }
            }
            CHECKS.due("make(3) of a row, seed " + seed, maze.make(3), 4);
            CHECKS.due("numbers of a row, seed " + seed, Mazes.drawnDoor(maze), numbers.below(4));
        }
    }

    private static void combedTakesAboveBeforeLeft() {
        for (int seed = 0; seed < 40; seed++) {
            MazeForms maze = new MazeForms(3, 3, seed);
            Numbers numbers = new Numbers(seed);
            CHECKS.due("make(4) of 3 x 3, seed " + seed, maze.make(4), 8);
            for (int cell = 1; cell < 9; cell++) {
                int x = cell % 3;
                int y = cell / 3;
                int drawn = numbers.below(x > 0 && y > 0 ? 2 : 1);
                boolean above = y > 0 && drawn == 0;
                String what = " of cell " + cell + ", seed " + seed;
                CHECKS.due("above" + what, maze.open(x, y, 0), above);
                CHECKS.due("left" + what, maze.open(x, y, 3), !above);
            }
        }
    }

    /** MAKING closes all doors and begins anew: of what was made before just X goes on. */
    private static void eachWayAfterEachOther() {
        for (int pair = 0; pair < 25; pair++) {
            Twin twin = new Twin(5, 4, pair);
            twin.make(pair / 5);
            twin.make(pair % 5);
            everyDoorIsDue(twin);
            Twin looped = new Twin(5, 4, pair);
            looped.loops(pair);
            looped.make(pair % 5);
            everyDoorIsDue(looped);
        }
    }

    private static void everyDoorIsDue(Twin twin) {
        for (int cell = 0; cell < 20; cell++) {
            twin.open(cell % 5, cell / 5, 1);
            twin.open(cell % 5, cell / 5, 2);
        }
        CHECKS.due("wrong answers in " + twin.told(), twin.wrong(), 0);
    }

    /** Another cell is the first one then, and lies alone: nothing can be opened, wherever walks went before. */
    private static void nothingIsLeftOfMazesBefore() {
        int[] regional = {0, 2, 3};
        for (int seed = 0; seed < 20; seed++) {
            for (int way = 0; way <= 4; way++) {
                MazeForms maze = new MazeForms(4, 3, seed);
                for (int next : regional) {
                    Mazes.unmaskAll(maze, 4, 3);
                    maze.make(way);
                    maze.mask(0, 0, true);
                    maze.mask(2, 0, true);
                    maze.mask(1, 1, true);
                    String what = "make(" + next + ") after make(" + way + "), seed " + seed;
                    CHECKS.due(what, maze.make(next), 0);
                    CHECKS.due("open doors after " + what, Mazes.openDoors(maze, 4, 3), 0);
                }
            }
        }
    }
}
