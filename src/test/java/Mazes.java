/** What several tests look at: which doors of a maze are open, and mazes that are written out. */
final class Mazes {
    private static final int RIGHT = 1;
    private static final int BELOW = 2;

    private Mazes() {
    }

    /** For each cell in order, on the right and below: '-' and '|' where a door is open, '.' where not. */
    static String picture(MazeForms maze, int width, int height) {
        StringBuilder text = new StringBuilder();
        for (int y = 0; y < height; y++) {
            for (int x = 0; x < width; x++) {
                text.append(maze.open(x, y, RIGHT) ? '-' : '.');
                text.append(maze.open(x, y, BELOW) ? '|' : '.');
            }
            text.append(y + 1 < height ? "/" : "");
        }
        return text.toString();
    }

    static int openDoors(MazeForms maze, int width, int height) {
        int count = 0;
        for (char sign : picture(maze, width, height).toCharArray()) {
            count += sign == '-' || sign == '|' ? 1 : 0;
        }
        return count;
    }

    /** A grid from its rows, '#' for a masked cell. */
    static MazeForms masked(int seed, String... rows) {
        MazeForms maze = new MazeForms(rows[0].length(), rows.length, seed);
        for (int y = 0; y < rows.length; y++) {
            for (int x = 0; x < rows[y].length(); x++) {
                if (rows[y].charAt(x) == '#') {
                    maze.mask(x, y, true);
                }
            }
        }
        return maze;
    }

    static void openAll(MazeForms maze) {
        for (int door = 0; door < maze.doors(); door++) {
            maze.set(door, true);
        }
    }

    static void openThese(MazeForms maze, int... doors) {
        for (int door : doors) {
            maze.set(door, true);
        }
    }
}
