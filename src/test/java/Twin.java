/** An object and its model: each call goes to both, and the answer is held against the model's. */
final class Twin {
    private final Checks checks = new Checks();
    private final StringBuilder told = new StringBuilder();
    private final MazeForms real;
    private final Model model;
    private int calls;

    Twin(int width, int height, int seed) {
        real = new MazeForms(width, height, seed);
        model = new Model(width, height, seed);
        told.append("new MazeForms(" + width + ", " + height + ", " + seed + ")");
    }

    int calls() {
        return calls;
    }

    int wrong() {
        return checks.wrong();
    }

    /** The calls until now, to tell where a wrong answer came from. */
    String told() {
        return told.toString();
    }

    int knownDoors() {
        return model.doors();
    }

    private void due(String call, long got, long want) {
        calls++;
        told.append(", ").append(call);
        checks.due(call, got, want);
    }

    private void due(String call, boolean got, boolean want) {
        due(call, got ? 1 : 0, want ? 1 : 0);
    }

    void mask(int x, int y, boolean on) {
        due("mask(" + x + ", " + y + ", " + on + ")", real.mask(x, y, on), model.mask(x, y, on));
    }

    void make(int way) {
        due("make(" + way + ")", real.make(way), model.make(way));
    }

    void doors() {
        due("doors()", real.doors(), model.doors());
    }

    void open(int x, int y, int side) {
        due("open(" + x + ", " + y + ", " + side + ")", real.open(x, y, side), model.open(x, y, side));
    }

    void set(int door, boolean on) {
        due("set(" + door + ", " + on + ")", real.set(door, on), model.set(door, on));
    }

    void loops(int n) {
        due("loops(" + n + ")", real.loops(n), model.loops(n));
    }

    void path(int from, int to) {
        due("path(" + from + ", " + to + ")", real.path(from, to), model.path(from, to));
    }

    void at(int k) {
        due("at(" + k + ")", real.at(k), model.at(k));
    }

    void ends(int open) {
        due("ends(" + open + ")", real.ends(open), model.ends(open));
    }

    void parts() {
        due("parts()", real.parts(), model.parts());
    }

    void isTree() {
        due("isTree()", real.isTree(), model.isTree());
    }

    void grade() {
        due("grade()", real.grade(), model.grade());
    }

    void trees(int prime) {
        due("trees(" + prime + ")", real.trees(prime), model.trees(prime));
    }
}
