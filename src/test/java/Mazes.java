/** What several tests look at: which doors of a maze are open, and mazes that are written out. */
final class Mazes {
    private static final int RIGHT = 1;
    private static final int BELOW = 2;

    private Mazes() {
    }

    /** For each cell in order, on the right and below: '-' and '|' where a door is open, '.' where not. */
    static String picture(MazeForms maze, int width, int height) {
        StringBuilder text = new StringBuilder();
        for (int y = 0; y < height; y++) {
            for (int x = 0; x < width; x++) {
                text.append(maze.open(x, y, RIGHT) ? '-' : '.');
                text.append(maze.open(x, y, BELOW) ? '|' : '.');
            }
            text.append(y + 1 < height ? "/" : "");
        }
        return text.toString();
    }

    static int openDoors(MazeForms maze, int width, int height) {
        int count = 0;
        for (char sign : picture(maze, width, height).toCharArray()) {
            count += sign == '-' || sign == '|' ? 1 : 0;
        }
        return count;
    }

    /** A grid from its rows, '#' for a masked cell. */
    static MazeForms masked(int seed, String... rows) {
        MazeForms maze = new MazeForms(rows[0].length(), rows.length, seed);
        for (int y = 0; y < rows.length; y++) {
            for (int x = 0; x < rows[y].length(); x++) {
                if (rows[y].charAt(x) == '#') {
                    maze.mask(x, y, true);
                }
            }
        }
        return maze;
    }

    static void unmaskAll(MazeForms maze, int width, int height) {
        for (int y = 0; y < height; y++) {
            for (int x = 0; x < width; x++) {
                maze.mask(x, y, false);
            }
        }
    }

    /** The door that the next number chooses of all doors, which shows how many were drawn before. */
    static int drawnDoor(MazeForms maze) {
        closeAll(maze);
        maze.loops(1);
        return closeAll(maze);
    }

    /** The last door that was open until then, or -1. */
    static int closeAll(MazeForms maze) {
        int doors = maze.doors();
        int open = -1;
        for (int door = 0; door < doors; door++) {
            open = maze.set(door, false) ? door : open;
        }
        return open;
    }

    static void openAll(MazeForms maze) {
        int doors = maze.doors();
        for (int door = 0; door < doors; door++) {
            maze.set(door, true);
        }
    }

    static void closeThese(MazeForms maze, int... doors) {
        for (int door : doors) {
            maze.set(door, false);
        }
    }

    /** A corridor through all cells of 12 x 12: along the rows, down at their ends in turn. */
    static MazeForms serpent() {
        MazeForms maze = new MazeForms(12, 12, 0);
        for (int y = 0; y < 12; y++) {
            // Of a row but the last one: doors on the right are even in it, those below odd; 22 is the last below.
            for (int x = 0; x < 11; x++) {
                maze.set(23 * y + (y < 11 ? 2 * x : x), true);
            }
            if (y < 11) {
                maze.set(23 * y + (y % 2 == 0 ? 22 : 1), true);
            }
        }
        return maze;
    }

    static void openThese(MazeForms maze, int... doors) {
        for (int door : doors) {
            maze.set(door, true);
        }
    }
}
