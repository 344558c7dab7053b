/** Counts and prints the answers that are not as due. */
final class Checks {
    private int wrong;
    private int checked;

    void due(String call, long got, long want) {
        checked++;
        if (got != want) {
            wrong++;
            System.out.println(call + " answered " + got + ", due is " + want);
        }
    }

    void due(String call, boolean got, boolean want) {
        checked++;
        if (got != want) {
            wrong++;
            System.out.println(call + " answered " + got + ", due is " + want);
        }
    }

    void due(String call, String got, String want) {
        checked++;
        if (!got.equals(want)) {
            wrong++;
            System.out.println(call + " gave " + got + ", due is " + want);
        }
    }

    int wrong() {
        return wrong;
    }

    void end() {
        if (checked == 0) {
            System.out.println("nothing was checked");
        }
        if (wrong != 0 || checked == 0) {
            System.exit(1);
        }
    }
}
