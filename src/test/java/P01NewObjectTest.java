/** Promise 1: the grid of a new object. */
public final class P01NewObjectTest {
    private static final Checks CHECKS = new Checks();

    public static void main(String[] args) {
        edgesAreHeld();
        cellsReachToTheEdges();
        whatIsBelowCountsAsOne();
        whatIsAboveCountsAsTwelve();
        nothingIsMaskedOrOpen();
        seedsDecide();
        alikeObjectsAnswerAlike();
        CHECKS.end();
    }

    private static int held(int edge) {
        return edge < 1 ? 1 : edge > 12 ? 12 : edge;
    }

    private static void edgesAreHeld() {
        int[] edges = {Integer.MIN_VALUE, -1, 0, 1, 2, 5, 11, 12, 13, 100, Integer.MAX_VALUE};
        for (int width : edges) {
            for (int height : edges) {
                int w = held(width);
                int h = held(height);
                int due = (w - 1) * h + w * (h - 1);
                CHECKS.due("doors() of " + width + ", " + height, new MazeForms(width, height, 0).doors(), due);
            }
        }
    }

    private static void cellsReachToTheEdges() {
        MazeForms wide = new MazeForms(99, -5, 0);
        CHECKS.due("mask(11, 0, true) of 12 x 1", wide.mask(11, 0, true), true);
        CHECKS.due("mask(12, 0, true) of 12 x 1", wide.mask(12, 0, true), false);
        CHECKS.due("mask(0, 1, true) of 12 x 1", wide.mask(0, 1, true), false);
        MazeForms high = new MazeForms(-5, 99, 0);
        CHECKS.due("mask(0, 11, true) of 1 x 12", high.mask(0, 11, true), true);
        CHECKS.due("mask(0, 12, true) of 1 x 12", high.mask(0, 12, true), false);
        CHECKS.due("mask(1, 0, true) of 1 x 12", high.mask(1, 0, true), false);
    }

    private static void whatIsBelowCountsAsOne() {
        for (int edge : new int[] {0, -1, -12, -144, Integer.MIN_VALUE}) {
            countsAs(edge, 7, 1, 7);
            countsAs(7, edge, 7, 1);
            countsAs(edge, edge, 1, 1);
        }
    }

    private static void whatIsAboveCountsAsTwelve() {
        for (int edge : new int[] {13, 14, 24, 144, 1 << 16, Integer.MAX_VALUE}) {
            countsAs(edge, 7, 12, 7);
            countsAs(7, edge, 7, 12);
            countsAs(edge, edge, 12, 12);
            countsAs(edge, -edge, 12, 1);
            countsAs(-edge, edge, 1, 12);
        }
    }

    /** Seen from all sides: the doors that are made, the numbers of the cells, how many trees there are. */
    private static void countsAs(int width, int height, int w, int h) {
        MazeForms maze = new MazeForms(width, height, 6);
        MazeForms due = new MazeForms(w, h, 6);
        String what = width + ", " + height + ": ";
        CHECKS.due(what + "doors()", maze.doors(), due.doors());
        CHECKS.due(what + "parts()", maze.parts(), w * h);
        CHECKS.due(what + "trees(0)", maze.trees(0), due.trees(0));
        CHECKS.due(what + "make(1)", maze.make(1), w * h - 1);
        due.make(1);
        CHECKS.due(what + "its maze", Mazes.picture(maze, 12, 12), Mazes.picture(due, 12, 12));
        int last = w * h - 1;
        CHECKS.due(what + "path(0, " + last + ")", maze.path(0, last), due.path(0, last));
        CHECKS.due(what + "path(0, " + (last + 1) + ")", maze.path(0, last + 1), -1);
    }

    private static void nothingIsMaskedOrOpen() {
        MazeForms maze = new MazeForms(7, 5, 3);
        CHECKS.due("open doors of a new object", Mazes.openDoors(maze, 7, 5), 0);
        CHECKS.due("parts() of a new object", maze.parts(), 35);
        CHECKS.due("ends(0) of a new object", maze.ends(0), 35);
        for (int y = 0; y < 5; y++) {
            for (int x = 0; x < 7; x++) {
                CHECKS.due("unmasking " + x + ", " + y, maze.mask(x, y, false), false);
            }
        }
        CHECKS.due("at(0) of a new object", maze.at(0), -1);
        CHECKS.due("grade() of a new object", maze.grade(), -1);
    }

    private static String madeFrom(int seed) {
        MazeForms maze = new MazeForms(12, 12, seed);
        maze.make(0);
        return Mazes.picture(maze, 12, 12);
    }

    private static void seedsDecide() {
        int[] seeds = {0, 1, -1, 99, Integer.MIN_VALUE, Integer.MAX_VALUE};
        for (int seed : seeds) {
            for (int other : seeds) {
                boolean alike = madeFrom(seed).equals(madeFrom(other));
                CHECKS.due("seeds " + seed + " and " + other + " make the same", alike, seed == other);
            }
        }
    }

    /** "All exact and alike for alike seeds": whatever another object is asked in between. */
    private static void alikeObjectsAnswerAlike() {
        for (int seed = -3; seed < 3; seed++) {
            MazeForms alone = new MazeForms(9, 8, seed);
            StringBuilder due = new StringBuilder();
            for (int call = 0; call < 100; call++) {
                due.append(answer(alone, call)).append(' ');
            }
            MazeForms alike = new MazeForms(9, 8, seed);
            MazeForms other = new MazeForms(8, 9, seed + 1);
            StringBuilder given = new StringBuilder();
            for (int call = 0; call < 100; call++) {
                given.append(answer(alike, call)).append(' ');
                answer(other, call + 7);
            }
            CHECKS.due("answers beside another object, seed " + seed, given.toString(), due.toString());
        }
    }

    private static Object answer(MazeForms maze, int call) {
        return switch (call % 10) {
            case 0 -> maze.mask(call % 8, 2, true);
            case 1 -> maze.make(call / 10 % 5);
            case 2 -> maze.loops(3);
            case 3 -> maze.path(0, 71);
            case 4 -> maze.at(5);
            case 5 -> maze.grade();
            case 6 -> maze.ends(1);
            case 7 -> maze.parts();
            case 8 -> maze.trees(call % 3);
            default -> Mazes.picture(maze, 8, 8);
        };
    }
}
