import java.math.BigInteger;

/** Promise 14: how many trees there are. */
public final class P14TreesTest {
    private static final Checks CHECKS = new Checks();
    private static final long[] PRIMES = {2147483647L, 1000000007L, 998244353L};

    public static void main(String[] args) {
        fewTrees();
        noneWhereCellsLieApart();
        manyTrees();
        bySets();
        residuesInBetweenMayBeZero();
        doorsStayAsTheyAre();
        thereIsNoSuchPrime();
        CHECKS.end();
    }

    private static void treesAre(String what, MazeForms maze, String due) {
        for (int prime = 0; prime < 3; prime++) {
            long residue = new BigInteger(due).mod(BigInteger.valueOf(PRIMES[prime])).longValueExact();
            CHECKS.due(what + ": trees(" + prime + ")", maze.trees(prime), residue);
        }
    }

    private static void fewTrees() {
        treesAre("no cell", Mazes.masked(0, "##", "##"), "1");
        treesAre("one cell", new MazeForms(1, 1, 0), "1");
        treesAre("one cell beside masks", Mazes.masked(0, "##", "#."), "1");
        treesAre("two cells apart", Mazes.masked(0, ".#", "#."), "0");
        treesAre("a row", new MazeForms(12, 1, 0), "1");
        treesAre("a column", new MazeForms(1, 12, 0), "1");
        treesAre("a square", new MazeForms(2, 2, 0), "4");
        treesAre("2 x 3", new MazeForms(2, 3, 0), "15");
        treesAre("3 x 2", new MazeForms(3, 2, 0), "15");
        treesAre("a ring", Mazes.masked(0, "...", ".#.", "..."), "8");
        treesAre("two squares apart", Mazes.masked(0, "..#..", "..#.."), "0");
        treesAre("a lone first cell", Mazes.masked(0, ".#.", "#..", "..."), "0");
        treesAre("a lone last cell", Mazes.masked(0, "...", "..#", ".#."), "0");
    }

    /** Each set of masks of 3 x 4: with all doors open there is more than one part, or there are trees. */
    private static void noneWhereCellsLieApart() {
        for (int chosen = 0; chosen < 1 << 12; chosen++) {
            MazeForms maze = new MazeForms(3, 4, 0);
            for (int cell = 0; cell < 12; cell++) {
                maze.mask(cell % 3, cell / 3, (chosen >> cell & 1) == 1);
            }
            maze.loops(200);
            boolean joined = maze.parts() <= 1;
            for (int prime = 0; prime < 3; prime++) {
                String what = "trees(" + prime + ") is above 0, masks " + Integer.toBinaryString(chosen);
                CHECKS.due(what, maze.trees(prime) > 0, joined);
            }
        }
    }

    /** The numbers of trees of square grids are well known (OEIS A007341). */
    private static void manyTrees() {
        String[] squares = {"1", "4", "192", "100352", "557568000", "32565539635200", "19872369301840986112",
            "126231322912498539682594816"};
        for (int edge = 1; edge <= squares.length; edge++) {
            treesAre(edge + " x " + edge, new MazeForms(edge, edge, 0), squares[edge - 1]);
        }
        int[][] edges = {{12, 12}, {12, 5}, {5, 12}, {9, 11}};
        for (int[] edge : edges) {
            String due = new Model(edge[0], edge[1], 0).exactTrees().toString();
            treesAre(edge[0] + " x " + edge[1], new MazeForms(edge[0], edge[1], 0), due);
        }
    }

    /** Each set of doors of small grids is looked at. */
    private static void bySets() {
        String[][] grids = {{"...", ".#.", "..."}, {"#..", "...", "..#"}, {"....", ".#..", "...."}, {"..", "..", ".."}};
        for (String[] rows : grids) {
            int doors = Mazes.masked(0, rows).doors();
            int trees = 0;
            for (int chosen = 0; chosen < 1 << doors; chosen++) {
                MazeForms maze = Mazes.masked(0, rows);
                for (int door = 0; door < doors; door++) {
                    maze.set(door, (chosen >> door & 1) == 1);
                }
                trees += maze.isTree() ? 1 : 0;
            }
            treesAre("by sets of " + String.join("/", rows), Mazes.masked(0, rows), Integer.toString(trees));
        }
    }

    /**
     * Grids, found by search, whose matrices have on the way a determinant that one of the primes
     * divides: to go through them in their own order would end there with 0.
     */
    private static void residuesInBetweenMayBeZero() {
        wantsRowsExchanged("#...#", "#....", ".....", "..#..", ".....", ".#.#.",
            ".#.#.", ".....", ".....", ".....", "...#.", "...#.");
        wantsRowsExchanged("......", "......", "...#.#", "......", "...#..", "......",
            "....#.", "......", ".....#", ".#....", ".....#", "......");
        wantsRowsExchanged("......", "......", ".#...#", "...#..", ".#....", "#.....",
            "..#...", "......", ".....#", "......", "......", "......");
    }

    private static void wantsRowsExchanged(String... rows) {
        Model model = new Model(rows[0].length(), rows.length, 0);
        for (int y = 0; y < rows.length; y++) {
            for (int x = 0; x < rows[y].length(); x++) {
                model.mask(x, y, rows[y].charAt(x) == '#');
            }
        }
        treesAre(String.join("/", rows), Mazes.masked(0, rows), model.exactTrees().toString());
    }

    private static void doorsStayAsTheyAre() {
        MazeForms maze = new MazeForms(4, 4, 6);
        maze.make(1);
        maze.path(0, 15);
        String before = Mazes.picture(maze, 4, 4);
        treesAre("open doors count as closed ones", maze, "100352");
        treesAre("asked again", maze, "100352");
        CHECKS.due("the maze after it", Mazes.picture(maze, 4, 4), before);
        CHECKS.due("at(0) after it", maze.at(0), 0);
        maze.mask(0, 0, true);
        Model masked = new Model(4, 4, 6);
        masked.mask(0, 0, true);
        treesAre("masked", maze, masked.exactTrees().toString());
        maze.mask(0, 0, false);
        treesAre("unmasked", maze, "100352");
    }

    private static void thereIsNoSuchPrime() {
        int[] wrong = {-1, 3, 4, Integer.MIN_VALUE, Integer.MAX_VALUE};
        MazeForms maze = new MazeForms(3, 3, 0);
        MazeForms none = Mazes.masked(0, "#");
        for (int prime : wrong) {
            CHECKS.due("trees(" + prime + ")", maze.trees(prime), -1);
            CHECKS.due("trees(" + prime + ") without cells", none.trees(prime), -1);
        }
    }
}
