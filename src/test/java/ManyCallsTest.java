import java.util.Random;

/** "An object is used for at most 512 calls": to the last of them the answers are the due ones. */
public final class ManyCallsTest {
    private static final int MOST_CALLS = 512;

    private static int wrong;

    public static void main(String[] args) {
        ofAllKinds(12, 12, 144);
        ofAllKinds(7, 5, 35);
        ofAllKinds(1, 1, 1);
        ofAllKinds(0, 99, 12);
        for (int way = 0; way <= 4; way++) {
            makingAgainAndAgain(way);
        }
        maskingAgainAndAgain();
        doorsAgainAndAgain();
        loopsAgainAndAgain();
        pathsAgainAndAgain();
        treesAgainAndAgain();
        wrongOnesAgainAndAgain();
        if (wrong != 0) {
            System.exit(1);
        }
    }

    private static void end(String what, Twin twin) {
        if (twin.calls() != MOST_CALLS) {
            wrong++;
            System.out.println(what + ": " + twin.calls() + " calls were made, not " + MOST_CALLS);
        }
        if (twin.wrong() != 0) {
            wrong++;
            System.out.println("  in " + what + ": " + twin.told());
        }
    }

    private static void ofAllKinds(int width, int height, int cells) {
        Random random = new Random(width);
        Twin twin = new Twin(width, height, width - height);
        while (twin.calls() < MOST_CALLS) {
            int call = twin.calls();
            switch (call % 16) {
                case 0 -> twin.make(call / 16 % 5);
                case 1 -> twin.loops(random.nextInt(4));
                case 2 -> twin.doors();
                case 3, 9 -> twin.path(random.nextInt(cells), random.nextInt(cells));
                case 4, 10 -> twin.at(random.nextInt(5));
                case 5, 11 -> twin.grade();
                case 6 -> twin.open(random.nextInt(12), random.nextInt(12), random.nextInt(4));
                case 7 -> twin.ends(random.nextInt(5));
                case 8 -> twin.set(random.nextInt(2 * cells), random.nextBoolean());
                case 12 -> twin.parts();
                case 13 -> twin.isTree();
                case 14 -> twin.trees(call < 32 ? call % 3 : random.nextInt(3) + 3);
                default -> twin.mask(random.nextInt(12), random.nextInt(12), random.nextBoolean());
            }
        }
        end("calls of all kinds on " + width + ", " + height, twin);
    }

    /** As many times as leave room for a look at each door of the last maze. */
    private static void makingAgainAndAgain(int way) {
        Twin twin = new Twin(12, 12, -way);
        while (twin.calls() < MOST_CALLS - 264) {
            twin.make(way);
        }
        for (int y = 0; y < 12; y++) {
            for (int x = 0; x < 12; x++) {
                if (x < 11) {
                    twin.open(x, y, 1);
                }
                if (y < 11) {
                    twin.open(x, y, 2);
                }
            }
        }
        end("making by way " + way, twin);
    }

    private static void maskingAgainAndAgain() {
        Twin twin = new Twin(12, 12, 3);
        for (int cell = 0; cell < 144; cell++) {
            twin.mask(cell % 12, cell / 12, true);
        }
        twin.doors();
        twin.make(0);
        for (int cell = 143; cell >= 0; cell--) {
            twin.mask(cell % 12, cell / 12, false);
        }
        for (int cell = 0; cell < 144; cell++) {
            twin.mask(cell % 12, cell / 12, cell % 5 == 0);
        }
        while (twin.calls() < MOST_CALLS) {
            twin.mask(twin.calls() % 12, 7, twin.calls() % 7 < 3);
            twin.doors();
        }
        end("masking", twin);
    }

    private static void doorsAgainAndAgain() {
        Twin twin = new Twin(12, 12, 4);
        for (int door = 0; door < 264; door++) {
            twin.set(door, true);
        }
        while (twin.calls() < MOST_CALLS) {
            twin.set(263 - twin.calls() % 264, twin.calls() % 3 == 0);
        }
        end("opening and closing doors", twin);
    }

    /** The numbers go on: after each of them the door is looked for by closing it again. */
    private static void loopsAgainAndAgain() {
        Twin twin = new Twin(3, 2, 5);
        while (twin.calls() < MOST_CALLS) {
            twin.loops(1);
            for (int door = 0; door < 7; door++) {
                twin.set(door, false);
            }
        }
        end("loops", twin);
    }

    private static void pathsAgainAndAgain() {
        Twin twin = new Twin(12, 12, 6);
        twin.make(1);
        twin.loops(40);
        while (twin.calls() < MOST_CALLS) {
            twin.path(twin.calls() % 144, twin.calls() * 7 % 144);
            twin.at(twin.calls() % 11);
            twin.grade();
        }
        end("paths", twin);
    }

    private static void treesAgainAndAgain() {
        Twin twin = new Twin(5, 4, 7);
        while (twin.calls() < MOST_CALLS) {
            int round = twin.calls() / 2;
            twin.trees(round % 4);
            twin.mask(round % 5, round % 4, round % 3 == 0);
        }
        end("trees", twin);
    }

    /** Refused calls are calls too, and leave the maze and the path of the first ones as they are. */
    private static void wrongOnesAgainAndAgain() {
        Twin twin = new Twin(4, 4, 8);
        twin.make(2);
        twin.path(0, 15);
        int[] odd = {Integer.MIN_VALUE, -1, 264, Integer.MAX_VALUE};
        while (twin.calls() < MOST_CALLS - 6) {
            int number = odd[twin.calls() % 4];
            switch (twin.calls() % 7) {
                case 0 -> twin.mask(number, 0, true);
                case 1 -> twin.make(number);
                case 2 -> twin.set(number, true);
                case 3 -> twin.loops(number);
                case 4 -> twin.at(number);
                case 5 -> twin.trees(number);
                default -> twin.open(0, number, 0);
            }
        }
        twin.at(0);
        twin.at(1);
        twin.grade();
        twin.path(15, 16);
        twin.at(0);
        twin.isTree();
        end("refused calls", twin);
    }
}
