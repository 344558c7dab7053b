import java.util.ArrayList;
import java.util.List;

/** Promise 7: loops. */
public final class P07LoopsTest {
    private static final Checks CHECKS = new Checks();

    public static void main(String[] args) {
        opensTheDrawnDoors();
        opensSoManyAsThereAre();
        wrongNumbersDoNothing();
        noNumberIsDrawnForNone();
        numbersEndWithTheClosedDoors();
        from0To200();
        CHECKS.end();
    }

    private static void opensTheDrawnDoors() {
        for (int seed = -5; seed < 20; seed++) {
            MazeForms maze = new MazeForms(4, 4, seed);
            Mazes.openThese(maze, 0, 5, 6, 23);
            Numbers numbers = new Numbers(seed);
            List<Integer> closed = new ArrayList<>();
            for (int door = 0; door < 24; door++) {
                if (door != 0 && door != 5 && door != 6 && door != 23) {
                    closed.add(door);
                }
            }
            for (int i = 0; i < 7; i++) {
                closed.remove(numbers.below(closed.size()));
            }
            CHECKS.due("loops(3)", maze.loops(3), 3);
            CHECKS.due("loops(4)", maze.loops(4), 4);
            for (int door = 0; door < 24; door++) {
                CHECKS.due("door " + door + " of seed " + seed + " is closed", maze.set(door, true),
                        closed.contains(door));
            }
        }
    }

    private static void opensSoManyAsThereAre() {
        MazeForms maze = new MazeForms(12, 12, 1);
        CHECKS.due("loops(0)", maze.loops(0), 0);
        CHECKS.due("loops(1)", maze.loops(1), 1);
        CHECKS.due("loops(200)", maze.loops(200), 200);
        CHECKS.due("loops(200) of 63", maze.loops(200), 63);
        CHECKS.due("loops(200) of none", maze.loops(200), 0);
        CHECKS.due("open doors in the end", Mazes.openDoors(maze, 12, 12), 264);
        CHECKS.due("loops(5) without doors", new MazeForms(1, 1, 0).loops(5), 0);
        CHECKS.due("loops(5) without cells", Mazes.masked(0, "#").loops(5), 0);
        CHECKS.due("loops(9) beside a mask", Mazes.masked(0, "#..", "...").loops(9), 5);
        MazeForms made = new MazeForms(4, 4, 1);
        made.make(0);
        CHECKS.due("loops(200) of a made maze", made.loops(200), 9);
    }

    private static void wrongNumbersDoNothing() {
        int[] wrong = {-1, 201, 202, Integer.MIN_VALUE, Integer.MAX_VALUE};
        MazeForms maze = new MazeForms(4, 4, 2);
        MazeForms twin = new MazeForms(4, 4, 2);
        maze.make(0);
        twin.make(0);
        maze.path(0, 15);
        for (int n : wrong) {
            CHECKS.due("loops(" + n + ")", maze.loops(n), -1);
        }
        CHECKS.due("at(0) after them", maze.at(0), 0);
        CHECKS.due("the maze after them", Mazes.picture(maze, 4, 4), Mazes.picture(twin, 4, 4));
        maze.loops(2);
        twin.loops(2);
        CHECKS.due("no number was drawn", Mazes.picture(maze, 4, 4), Mazes.picture(twin, 4, 4));
        CHECKS.due("loops(-1) without doors", new MazeForms(1, 1, 0).loops(-1), -1);
        CHECKS.due("loops(201) without doors", new MazeForms(1, 1, 0).loops(201), -1);
    }

    private static void numbersEndWithTheClosedDoors() {
        for (int seed = 0; seed < 30; seed++) {
            MazeForms maze = new MazeForms(3, 3, seed);
            Mazes.openAll(maze);
            Mazes.closeThese(maze, 1, 6, 11);
            CHECKS.due("loops(200) of three closed doors", maze.loops(200), 3);
            CHECKS.due("the next door, seed " + seed, Mazes.drawnDoor(maze), Numbers.after(3, seed, 12));
        }
    }

    private static void from0To200() {
        for (int n = -3; n <= 203; n++) {
            MazeForms maze = new MazeForms(12, 12, n);
            int due = n < 0 || n > 200 ? -1 : n;
            CHECKS.due("loops(" + n + ")", maze.loops(n), due);
            CHECKS.due("open doors after loops(" + n + ")", Mazes.openDoors(maze, 12, 12), Math.max(0, due));
        }
    }

    private static void noNumberIsDrawnForNone() {
        MazeForms maze = new MazeForms(4, 4, 2);
        MazeForms twin = new MazeForms(4, 4, 2);
        Mazes.openAll(maze);
        maze.loops(7);
        maze.make(3);
        twin.make(3);
        CHECKS.due("no number was drawn for none", Mazes.picture(maze, 4, 4), Mazes.picture(twin, 4, 4));
    }
}
