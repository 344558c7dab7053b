import java.util.Random;

/** Runs of calls by chance, each answer held against the model's. */
public final class ModelTest {
    private static final int[] ODD = {Integer.MIN_VALUE, -2, -1, 12, 13, 264, 1000, Integer.MAX_VALUE};

    private final Random random;
    private final Twin twin;
    private final int width;
    private final int height;

    private ModelTest(int run) {
        random = new Random(run);
        int most = run % 4 == 0 ? 2 : run % 4 == 1 ? 4 : run % 4 == 2 ? 7 : 12;
        width = 1 + random.nextInt(most);
        height = 1 + random.nextInt(most);
        twin = new Twin(width, height, random.nextInt(3) == 0 ? random.nextInt(7) - 3 : random.nextInt());
    }

    public static void main(String[] args) {
        int wrong = 0;
        for (int run = 0; run < 2000 && wrong < 5; run++) {
            Twin twin = new ModelTest(run).run();
            if (twin.wrong() != 0) {
                System.out.println("  in run " + run + ": " + twin.told());
                wrong++;
            }
        }
        if (wrong != 0) {
            System.exit(1);
        }
    }

    private Twin run() {
        maskSome();
        int cells = width * height;
        // The last of the 512 calls look at the whole path and the whole maze.
        while (twin.calls() < 490 - 3 * cells && twin.wrong() == 0) {
            call();
        }
        twin.path(number(cells), number(cells));
        for (int k = -1; k <= cells; k++) {
            twin.at(k);
        }
        for (int cell = 0; cell < cells; cell++) {
            twin.open(cell % width, cell / width, 1);
            twin.open(cell % width, cell / width, 2);
        }
        return twin;
    }

    private void maskSome() {
        int percent = random.nextInt(3) == 0 ? 0 : random.nextInt(45);
        for (int y = 0; y < height; y++) {
            for (int x = 0; x < width; x++) {
                if (random.nextInt(100) < percent) {
                    twin.mask(x, y, true);
                }
            }
        }
    }

    private int number(int below) {
        return random.nextInt(12) == 0 ? ODD[random.nextInt(ODD.length)] : random.nextInt(below);
    }

    private void call() {
        int cells = width * height;
        boolean on = random.nextBoolean();
        switch (random.nextInt(24)) {
            case 0 -> twin.mask(number(width), number(height), on);
            case 1, 2, 3, 4 -> twin.make(number(5));
            case 5 -> twin.doors();
            case 6, 7 -> everyDoorOf(number(width), number(height));
            case 8, 9 -> twin.set(number(Math.max(1, twin.knownDoors())), on);
            case 10, 11 -> twin.loops(random.nextInt(9) == 0 ? 195 + random.nextInt(8) : number(6));
            case 12, 13, 14, 15 -> twin.path(number(cells), number(cells));
            case 16, 17 -> beginningOfThePath();
            case 18 -> twin.ends(number(5));
            case 19 -> twin.parts();
            case 20 -> twin.isTree();
            case 21, 22 -> twin.grade();
            default -> trees();
        }
    }

    private void trees() {
        // The model's whole numbers grow long: on large grids it is asked but now and then.
        if (width * height <= 50 || random.nextInt(8) == 0) {
            twin.trees(number(3));
        }
    }

    private void everyDoorOf(int x, int y) {
        for (int side = -1; side <= 4; side++) {
            twin.open(x, y, side);
        }
    }

    private void beginningOfThePath() {
        int until = 1 + random.nextInt(12);
        for (int k = -1; k <= until; k++) {
            twin.at(k);
        }
    }
}
