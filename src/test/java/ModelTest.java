import java.util.Random;

/** Runs of calls by chance, each answer held against the model's. */
public final class ModelTest {
    private static final int[] ODD = {Integer.MIN_VALUE, -2, -1, 12, 13, 264, 1000, Integer.MAX_VALUE};

    private final Checks checks = new Checks();
    private final Random random;
    private final StringBuilder told = new StringBuilder();
    private MazeForms real;
    private Model model;
    private int width;
    private int height;

    private ModelTest(long seed) {
        random = new Random(seed);
    }

    public static void main(String[] args) {
        int wrong = 0;
        for (int run = 0; run < 1200 && wrong < 5; run++) {
            ModelTest test = new ModelTest(run);
            test.run(run);
            wrong += test.checks.wrong();
        }
        if (wrong != 0) {
            System.exit(1);
        }
    }

    private void run(int run) {
        int most = run % 4 == 0 ? 2 : run % 4 == 1 ? 4 : run % 4 == 2 ? 7 : 12;
        width = 1 + random.nextInt(most);
        height = 1 + random.nextInt(most);
        int seed = random.nextInt(3) == 0 ? random.nextInt(7) - 3 : random.nextInt();
        real = new MazeForms(width, height, seed);
        model = new Model(width, height, seed);
        told.append("new MazeForms(" + width + ", " + height + ", " + seed + ")");
        maskSome();
        int calls = 30 + random.nextInt(most > 7 ? 40 : 160);
        for (int i = 0; i < calls && checks.wrong() == 0; i++) {
            call();
        }
        if (checks.wrong() != 0) {
            System.out.println("  in run " + run + ": " + told);
        }
    }

    private void maskSome() {
        int percent = random.nextInt(3) == 0 ? 0 : random.nextInt(45);
        for (int y = 0; y < height; y++) {
            for (int x = 0; x < width; x++) {
                if (random.nextInt(100) < percent) {
                    mask(x, y, true);
                }
            }
        }
    }

    private int number(int below) {
        return random.nextInt(12) == 0 ? ODD[random.nextInt(ODD.length)] : random.nextInt(below);
    }

    private void due(String call, long got, long want) {
        told.append(", ").append(call);
        checks.due(call, got, want);
    }

    private void mask(int x, int y, boolean on) {
        due("mask(" + x + ", " + y + ", " + on + ")",
                real.mask(x, y, on) ? 1 : 0, model.mask(x, y, on) ? 1 : 0);
    }

    private void call() {
        int a = number(width * height);
        int b = number(width * height);
        boolean on = random.nextBoolean();
        switch (random.nextInt(24)) {
            case 0 -> mask(number(width), number(height), on);
            case 1, 2, 3, 4 -> {
                int way = number(5);
                due("make(" + way + ")", real.make(way), model.make(way));
            }
            case 5 -> due("doors()", real.doors(), model.doors());
            case 6, 7 -> everyDoor();
            case 8, 9 -> {
                int door = number(Math.max(1, model.doors()));
                due("set(" + door + ", " + on + ")",
                        real.set(door, on) ? 1 : 0, model.set(door, on) ? 1 : 0);
            }
            case 10, 11 -> {
                int n = random.nextInt(9) == 0 ? 195 + random.nextInt(8) : number(6);
                due("loops(" + n + ")", real.loops(n), model.loops(n));
            }
            case 12, 13, 14, 15 -> due("path(" + a + ", " + b + ")", real.path(a, b), model.path(a, b));
            case 16, 17 -> wholePath();
            case 18 -> {
                int open = number(5);
                due("ends(" + open + ")", real.ends(open), model.ends(open));
            }
            case 19 -> due("parts()", real.parts(), model.parts());
            case 20 -> due("isTree()", real.isTree() ? 1 : 0, model.isTree() ? 1 : 0);
            case 21, 22 -> due("grade()", real.grade(), model.grade());
            default -> trees();
        }
    }

    private void trees() {
        // The model's whole numbers grow long: on large grids it is asked but now and then.
        if (width * height <= 50 || random.nextInt(8) == 0) {
            int prime = number(3);
            due("trees(" + prime + ")", real.trees(prime), model.trees(prime));
        }
    }

    private void everyDoor() {
        for (int y = -1; y <= height; y++) {
            for (int x = -1; x <= width; x++) {
                for (int side = -1; side <= 4; side++) {
                    String call = "open(" + x + ", " + y + ", " + side + ")";
                    checks.due(call, real.open(x, y, side), model.open(x, y, side));
                }
            }
        }
    }

    private void wholePath() {
        for (int k = -1; k <= width * height; k++) {
            checks.due("at(" + k + ")", real.at(k), model.at(k));
        }
    }
}
