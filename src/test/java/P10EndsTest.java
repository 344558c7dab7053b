/** Promise 10: cells by their open doors. */
public final class P10EndsTest {
    private static final Checks CHECKS = new Checks();

    public static void main(String[] args) {
        endsAre("closed", new MazeForms(3, 3, 0), 9, 0, 0, 0, 0);
        MazeForms open = new MazeForms(3, 3, 0);
        Mazes.openAll(open);
        endsAre("open", open, 0, 0, 4, 4, 1);
        MazeForms ring = Mazes.masked(0, "...", ".#.", "...");
        endsAre("masked", ring, 8, 0, 0, 0, 0);
        Mazes.openAll(ring);
        endsAre("ring", ring, 0, 0, 8, 0, 0);
        ring.set(0, false);
        endsAre("cut ring", ring, 0, 2, 6, 0, 0);
        // Doors 3, 5, 7 and 8 are those of the middle cell.
        MazeForms cross = new MazeForms(3, 3, 0);
        Mazes.openThese(cross, 3, 5, 7, 8);
        endsAre("cross", cross, 4, 4, 0, 0, 1);
        MazeForms row = new MazeForms(12, 1, 0);
        row.make(1);
        endsAre("row", row, 0, 2, 10, 0, 0);
        endsAre("one cell", new MazeForms(1, 1, 0), 1, 0, 0, 0, 0);
        endsAre("no cell", Mazes.masked(0, "#"), 0, 0, 0, 0, 0);
        CHECKS.end();
    }

    private static void endsAre(String what, MazeForms maze, int... due) {
        for (int open = 0; open < due.length; open++) {
            CHECKS.due(what + ": ends(" + open + ")", maze.ends(open), due[open]);
        }
        int[] none = {-1, 5, 144, Integer.MIN_VALUE, Integer.MAX_VALUE};
        for (int open : none) {
            CHECKS.due(what + ": ends(" + open + ")", maze.ends(open), 0);
        }
    }
}
