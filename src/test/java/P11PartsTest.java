/** Promise 11: how many parts there are. */
public final class P11PartsTest {
    private static final Checks CHECKS = new Checks();

    public static void main(String[] args) {
        CHECKS.due("parts() of one cell", new MazeForms(1, 1, 0).parts(), 1);
        CHECKS.due("parts() without cells", Mazes.masked(0, "#").parts(), 0);
        CHECKS.due("parts() of closed doors", new MazeForms(12, 12, 0).parts(), 144);
        CHECKS.due("parts() beside masks", Mazes.masked(0, "..#", "#..").parts(), 4);
        doorByDoor();
        ringsJoinNothing();
        byWays();
        CHECKS.end();
    }

    private static void doorByDoor() {
        MazeForms maze = new MazeForms(12, 1, 0);
        for (int door = 10; door >= 0; door--) {
            maze.set(door, true);
            CHECKS.due("parts() of a row, door " + door, maze.parts(), door + 1);
        }
        for (int door = 0; door <= 10; door += 2) {
            maze.set(door, false);
            CHECKS.due("parts() of a row, closing " + door, maze.parts(), 2 + door / 2);
        }
    }

    private static void ringsJoinNothing() {
        MazeForms maze = new MazeForms(2, 2, 0);
        int[] due = {3, 2, 1, 1};
        for (int door = 0; door < 4; door++) {
            maze.set(door, true);
            CHECKS.due("parts() of a square, door " + door, maze.parts(), due[door]);
        }
        MazeForms two = Mazes.masked(0, "..#..", "..#..");
        Mazes.openAll(two);
        CHECKS.due("parts() of two squares", two.parts(), 2);
    }

    private static void byWays() {
        int[] due = {7, 2, 7, 7, 2};
        for (int way = 0; way <= 4; way++) {
            MazeForms maze = Mazes.masked(3, ".#..", ".#..", "##..");
            maze.make(way);
            CHECKS.due("parts() of way " + way, maze.parts(), due[way]);
        }
    }
}
