import java.util.Arrays;

/**
 * Mazes on grids with masked cells, made by five ways from a seed.
 *
 * <p>All rows that the calls work in are made once, with the object, so that a call makes nothing.
 */
public final class MazeForms {
    private static final int NONE = -1;

    private static final int SIDES = 4;
    private static final int ABOVE = 0;
    private static final int RIGHT = 1;
    private static final int BELOW = 2;
    private static final int LEFT = 3;

    private static final int MOST_LOOPS = 200;
    private static final long[] PRIMES = {2147483647L, 1000000007L, 998244353L};

    private final Grid grid;
    private final Joined joined;
    private final Maker maker;
    private final Trail trail;
    private final TreeCount treeCount;

    public MazeForms(int width, int height, int seed) {
        grid = new Grid(width, height);
        joined = new Joined(grid);
        Flood flood = new Flood(grid);
        maker = new Maker(grid, new Chance(seed), joined, flood);
        trail = new Trail(grid, flood);
        treeCount = new TreeCount(grid);
    }

    public boolean mask(int x, int y, boolean on) {
        return grid.setMask(grid.cellAt(x, y), on);
    }

    public int make(int way) {
        return maker.build(way);
    }

    public int doors() {
        return grid.doorCount();
    }

    public boolean open(int x, int y, int side) {
        return grid.isOpen(grid.doorOn(grid.cellAt(x, y), side));
    }

    public boolean set(int door, boolean on) {
        return grid.setDoor(door, on);
    }

    public int loops(int n) {
        if (n < 0 || n > MOST_LOOPS) {
            return -1;
        }
        return maker.openMore(n);
    }

    public int path(int from, int to) {
        return trail.find(from, to);
    }

    public int at(int k) {
        return trail.cellAtStep(k);
    }

    public int ends(int open) {
        int count = 0;
        for (int cell = 0; cell < grid.cellCount(); cell++) {
            if (grid.isFree(cell) && grid.openSides(cell) == open) {
                count++;
            }
        }
        return count;
    }

    public int parts() {
        return grid.freeCells() - joined.joinOpenDoors();
    }

    public boolean isTree() {
        int joins = joined.joinOpenDoors();
        // An open door that joined nothing closes a ring: a second way between its two cells.
        boolean ringless = joins == grid.openDoors();
        return ringless && grid.freeCells() - joins <= 1;
    }

    public long grade() {
        return trail.toll();
    }

    public long trees(int prime) {
        if (prime < 0 || prime >= PRIMES.length) {
            return -1L;
        }
        return treeCount.residue(PRIMES[prime]);
    }

    /** The numbers that decide, one after the other, from the seed on. */
    private static final class Chance {
        private static final long FACTOR = 6364136223846793005L;
        private static final long SUMMAND = 1442695040888963407L;
        private static final int LOWER_BITS = 33;

        private long state;

        Chance(int seed) {
            state = seed;
        }

        int below(int n) {
            if (n < 1) {
                return 0;
            }
            state = FACTOR * state + SUMMAND;
            return (int) ((state >>> LOWER_BITS) % n);
        }
    }

    /** The cells, their masks and their doors. */
    private static final class Grid {
        private static final int LONGEST_EDGE = 12;

        private final int width;
        private final int height;
        private final boolean[] masked;
        private final int[] doorOnSide;
        private final int[] lesserCell;
        private final int[] greaterCell;
        private final boolean[] doorOpen;
        private int doorCount;
        private int edition;

        Grid(int askedWidth, int askedHeight) {
            width = heldEdge(askedWidth);
            height = heldEdge(askedHeight);
            int mostDoors = (width - 1) * height + width * (height - 1);
            masked = new boolean[width * height];
            doorOnSide = new int[SIDES * width * height];
            lesserCell = new int[mostDoors];
            greaterCell = new int[mostDoors];
            doorOpen = new boolean[mostDoors];
            numberDoors();
        }

        int width() {
            return width;
        }

        int cellCount() {
            return masked.length;
        }

        int mostDoors() {
            return doorOpen.length;
        }

        int doorCount() {
            return doorCount;
        }

        /** Another number after every change of a mask or a door, so that a path can tell that it is stale. */
        int edition() {
            return edition;
        }

        int cellAt(int x, int y) {
            boolean inside = x >= 0 && x < width && y >= 0 && y < height;
            return inside ? x + width * y : NONE;
        }

        boolean isCell(int cell) {
            return cell >= 0 && cell < masked.length;
        }

        boolean isFree(int cell) {
            return isCell(cell) && !masked[cell];
        }

        boolean isDoor(int door) {
            return door >= 0 && door < doorCount && door < doorOpen.length;
        }

        boolean isOpen(int door) {
            return isDoor(door) && doorOpen[door];
        }

        int freeCells() {
            int count = 0;
            for (int cell = 0; cell < masked.length; cell++) {
                if (!masked[cell]) {
                    count++;
                }
            }
            return count;
        }

        int firstCell() {
            for (int cell = 0; cell < masked.length; cell++) {
                if (!masked[cell]) {
                    return cell;
                }
            }
            return NONE;
        }

        int openDoors() {
            int count = 0;
            for (int door = 0; door < doorCount; door++) {
                if (isOpen(door)) {
                    count++;
                }
            }
            return count;
        }

        int doorOn(int cell, int side) {
            boolean known = isCell(cell) && side >= 0 && side < SIDES;
            return known ? doorOnSide[SIDES * cell + side] : NONE;
        }

        int openSides(int cell) {
            int count = 0;
            for (int side = 0; side < SIDES; side++) {
                if (isOpen(doorOn(cell, side))) {
                    count++;
                }
            }
            return count;
        }

        int lesserCell(int door) {
            return isDoor(door) ? lesserCell[door] : NONE;
        }

        int greaterCell(int door) {
            return isDoor(door) ? greaterCell[door] : NONE;
        }

        int otherCell(int door, int cell) {
            if (!isDoor(door)) {
                return NONE;
            }
            return lesserCell[door] == cell ? greaterCell[door] : lesserCell[door];
        }

        boolean setDoor(int door, boolean on) {
            if (!isDoor(door) || doorOpen[door] == on) {
                return false;
            }
            doorOpen[door] = on;
            edition++;
            return true;
        }

        boolean setMask(int cell, boolean on) {
            if (!isCell(cell) || masked[cell] == on) {
                return false;
            }
            closeDoors();
            masked[cell] = on;
            numberDoors();
            return true;
        }

        /** Counts as a change even where no door was open: who closes all doors begins anew. */
        void closeDoors() {
            for (int door = 0; door < doorOpen.length; door++) {
                doorOpen[door] = false;
            }
            edition++;
        }

        private static int heldEdge(int edge) {
            return Math.max(1, Math.min(LONGEST_EDGE, edge));
        }

        private void numberDoors() {
            Arrays.fill(doorOnSide, NONE);
            doorCount = 0;
            for (int y = 0; y < height; y++) {
                for (int x = 0; x < width; x++) {
                    int cell = cellAt(x, y);
                    addDoor(cell, RIGHT, cellAt(x + 1, y), LEFT);
                    addDoor(cell, BELOW, cellAt(x, y + 1), ABOVE);
                }
            }
        }

        private void addDoor(int cell, int side, int other, int otherSide) {
            if (!isFree(cell) || !isFree(other) || doorCount >= doorOpen.length) {
                return;
            }
            lesserCell[doorCount] = cell;
            greaterCell[doorCount] = other;
            doorOnSide[SIDES * cell + side] = doorCount;
            doorOnSide[SIDES * other + otherSide] = doorCount;
            doorCount++;
        }
    }

    /** Doors in a row, of which one can be drawn. */
    private static final class DoorRow {
        private final Chance chance;
        private final int[] row;
        private int count;

        DoorRow(Chance chance, int most) {
            this.chance = chance;
            row = new int[Math.max(0, most)];
        }

        int count() {
            return count;
        }

        int doorAt(int place) {
            return place >= 0 && place < count && place < row.length ? row[place] : NONE;
        }

        void clear() {
            count = 0;
        }

        void add(int door) {
            if (door != NONE && count >= 0 && count < row.length) {
                row[count] = door;
                count++;
            }
        }

        /** An empty row draws no number: the numbers after it would be others. */
        int draw() {
            return count == 0 ? NONE : doorAt(chance.below(count));
        }

        void shuffle() {
            for (int place = count - 1; place >= 1; place--) {
                exchange(place, chance.below(place + 1));
            }
        }

        private void exchange(int place, int other) {
            int door = doorAt(place);
            int otherDoor = doorAt(other);
            if (door != NONE && otherDoor != NONE) {
                row[place] = otherDoor;
                row[other] = door;
            }
        }
    }

    /** Which cells are joined: each set of joined cells is a tree of parents with one root. */
    private static final class Joined {
        private final Grid grid;
        private final int[] parent;

        Joined(Grid grid) {
            this.grid = grid;
            parent = new int[grid.cellCount()];
        }

        void reset() {
            for (int cell = 0; cell < parent.length; cell++) {
                parent[cell] = cell;
            }
        }

        /** Whether the two cells of a door were apart until now. */
        boolean joinBy(int door) {
            int root = root(grid.lesserCell(door));
            int otherRoot = root(grid.greaterCell(door));
            if (root == NONE || otherRoot == NONE || root == otherRoot) {
                return false;
            }
            parent[root] = otherRoot;
            return true;
        }

        /** How many open doors joined what was apart. */
        int joinOpenDoors() {
            reset();
            int joins = 0;
            for (int door = 0; door < grid.doorCount(); door++) {
                if (grid.isOpen(door) && joinBy(door)) {
                    joins++;
                }
            }
            return joins;
        }

        private int root(int cell) {
            if (!grid.isCell(cell)) {
                return NONE;
            }
            int here = cell;
            for (int step = 0; step < parent.length && parent[here] != here; step++) {
                // Halving the chain keeps later searches short.
                parent[here] = parent[parent[here]];
                here = parent[here];
            }
            return here;
        }
    }

    /** How many steps it is from a cell to each of the others. */
    private static final class Flood {
        private final Grid grid;
        private final int[] steps;
        private final int[] queue;
        private int queued;

        Flood(Grid grid) {
            this.grid = grid;
            steps = new int[grid.cellCount()];
            queue = new int[grid.cellCount()];
        }

        void spread(int start, boolean closedToo) {
            Arrays.fill(steps, NONE);
            queued = 0;
            reach(start, 0);
            for (int head = 0; head < queued && head < queue.length; head++) {
                spreadOn(queue[head], closedToo);
            }
        }

        /** NONE for what the flood did not come to. */
        int stepsTo(int cell) {
            return grid.isCell(cell) ? steps[cell] : NONE;
        }

        private void spreadOn(int cell, boolean closedToo) {
            int next = stepsTo(cell) + 1;
            for (int side = 0; side < SIDES; side++) {
                int door = grid.doorOn(cell, side);
                if (closedToo || grid.isOpen(door)) {
                    reach(grid.otherCell(door, cell), next);
                }
            }
        }

        private void reach(int cell, int distance) {
            if (grid.isCell(cell) && steps[cell] == NONE && queued < queue.length) {
                steps[cell] = distance;
                queue[queued] = cell;
                queued++;
            }
        }
    }

    /** The five ways, and the loops. */
    private static final class Maker {
        private static final int DEEP = 0;
        private static final int SETS = 1;
        private static final int GROWN = 2;
        private static final int WALKED = 3;
        private static final int COMBED = 4;

        /** Far above what the slowest grids need: some ten thousand steps in the mean. */
        private static final int LONGEST_WALK = 1000000;

        private final Grid grid;
        private final Joined joined;
        private final Flood flood;
        private final DoorRow choice;
        private final boolean[] reached;
        private final int[] trace;
        private int opened;

        Maker(Grid grid, Chance chance, Joined joined, Flood flood) {
            this.grid = grid;
            this.joined = joined;
            this.flood = flood;
            choice = new DoorRow(chance, grid.mostDoors());
            reached = new boolean[grid.cellCount()];
            trace = new int[grid.cellCount()];
        }

        int build(int way) {
            if (way < DEEP || way > COMBED) {
                return -1;
            }
            grid.closeDoors();
            opened = 0;
            switch (way) {
                case DEEP:
                    goDeep();
                    break;
                case SETS:
                    joinSets();
                    break;
                case GROWN:
                    grow();
                    break;
                case WALKED:
                    walkAll();
                    break;
                default:
                    comb();
                    break;
            }
            return opened;
        }

        int openMore(int n) {
            opened = 0;
            for (int time = 0; time < n; time++) {
                choice.clear();
                for (int door = 0; door < grid.doorCount(); door++) {
                    if (!grid.isOpen(door)) {
                        choice.add(door);
                    }
                }
                if (choice.count() == 0) {
                    return opened;
                }
                openDoor(choice.draw());
            }
            return opened;
        }

        private void openDoor(int door) {
            if (grid.setDoor(door, true)) {
                opened++;
            }
        }

        private void begin(int first) {
            for (int cell = 0; cell < reached.length; cell++) {
                reached[cell] = false;
                trace[cell] = NONE;
            }
            enter(first);
        }

        private void enter(int cell) {
            if (grid.isCell(cell)) {
                reached[cell] = true;
            }
        }

        private boolean isReached(int cell) {
            return grid.isCell(cell) && reached[cell];
        }

        private int traceOf(int cell) {
            return grid.isCell(cell) ? trace[cell] : NONE;
        }

        private void setTrace(int cell, int mark) {
            if (grid.isCell(cell)) {
                trace[cell] = mark;
            }
        }

        /** The trace of a cell is here the cell that one came from. */
        private void goDeep() {
            int here = grid.firstCell();
            begin(here);
            // One goes into each cell once and back out of it once.
            for (int step = 0; step < 2 * reached.length && here != NONE; step++) {
                offerUnreached(here);
                int door = choice.draw();
                if (door == NONE) {
                    here = traceOf(here);
                } else {
                    int next = grid.otherCell(door, here);
                    openDoor(door);
                    enter(next);
                    setTrace(next, here);
                    here = next;
                }
            }
        }

        private void offerUnreached(int cell) {
            choice.clear();
            for (int side = 0; side < SIDES; side++) {
                int door = grid.doorOn(cell, side);
                if (door != NONE && !isReached(grid.otherCell(door, cell))) {
                    choice.add(door);
                }
            }
        }

        private void joinSets() {
            choice.clear();
            for (int door = 0; door < grid.doorCount(); door++) {
                choice.add(door);
            }
            choice.shuffle();
            joined.reset();
            for (int place = 0; place < choice.count(); place++) {
                int door = choice.doorAt(place);
                if (joined.joinBy(door)) {
                    openDoor(door);
                }
            }
        }

        private void grow() {
            begin(grid.firstCell());
            for (int step = 0; step < reached.length; step++) {
                offerRim();
                int door = choice.draw();
                if (door == NONE) {
                    return;
                }
                openDoor(door);
                enter(grid.lesserCell(door));
                enter(grid.greaterCell(door));
            }
        }

        /** The doors that lead out of the tree. */
        private void offerRim() {
            choice.clear();
            for (int door = 0; door < grid.doorCount(); door++) {
                if (isReached(grid.lesserCell(door)) != isReached(grid.greaterCell(door))) {
                    choice.add(door);
                }
            }
        }

        private void walkAll() {
            int first = grid.firstCell();
            begin(first);
            flood.spread(first, true);
            for (int cell = 0; cell < reached.length; cell++) {
                if (flood.stepsTo(cell) != NONE && !isReached(cell) && walkToTree(cell)) {
                    joinWalk(cell);
                }
            }
        }

        /** The trace of a cell is here the door by which the walk left it last. */
        private boolean walkToTree(int start) {
            int here = start;
            for (int step = 0; step < LONGEST_WALK && here != NONE && !isReached(here); step++) {
                offerAll(here);
                int door = choice.draw();
                setTrace(here, door);
                here = grid.otherCell(door, here);
            }
            return isReached(here);
        }

        private void offerAll(int cell) {
            choice.clear();
            for (int side = 0; side < SIDES; side++) {
                choice.add(grid.doorOn(cell, side));
            }
        }

        private void joinWalk(int start) {
            int here = start;
            for (int step = 0; step < reached.length && !isReached(here); step++) {
                int door = traceOf(here);
                enter(here);
                openDoor(door);
                here = grid.otherCell(door, here);
            }
        }

        private void comb() {
            for (int cell = 0; cell < reached.length; cell++) {
                choice.clear();
                choice.add(grid.doorOn(cell, ABOVE));
                choice.add(grid.doorOn(cell, LEFT));
                openDoor(choice.draw());
            }
        }
    }

    /** The path found latest. */
    private static final class Trail {
        private final Grid grid;
        private final Flood flood;
        private final int[] cells;
        private int length;
        private int edition;

        Trail(Grid grid, Flood flood) {
            this.grid = grid;
            this.flood = flood;
            cells = new int[grid.cellCount()];
            length = NONE;
        }

        int find(int from, int to) {
            length = NONE;
            if (!grid.isFree(from) || !grid.isFree(to)) {
                return -1;
            }
            // From the end, so that each step from the beginning can see which sides lead nearer.
            flood.spread(to, false);
            int steps = flood.stepsTo(from);
            if (steps == NONE) {
                return -1;
            }
            int here = from;
            for (int step = 0; step <= steps && step < cells.length; step++) {
                cells[step] = here;
                here = nearerCell(here);
            }
            length = steps;
            edition = grid.edition();
            return steps;
        }

        int cellAtStep(int step) {
            boolean known = isFound() && step >= 0 && step <= length && step < cells.length;
            return known ? cells[step] : NONE;
        }

        long toll() {
            if (!isFound()) {
                return -1L;
            }
            long sum = 0L;
            for (int step = 0; step < length; step++) {
                int ofThePath = step == 0 ? 1 : 2;
                long beside = grid.openSides(cellAtStep(step)) - ofThePath;
                sum += beside * (step + 1);
            }
            return sum;
        }

        private boolean isFound() {
            return length != NONE && edition == grid.edition();
        }

        private int nearerCell(int cell) {
            for (int side = 0; side < SIDES; side++) {
                int door = grid.doorOn(cell, side);
                int next = grid.otherCell(door, cell);
                if (grid.isOpen(door) && flood.stepsTo(next) == flood.stepsTo(cell) - 1) {
                    return next;
                }
            }
            return NONE;
        }
    }

    /**
     * How many trees there are: the determinant of the matrix that has on its diagonal each cell's
     * doors and -1 for each door between two cells, without the last cell's row and column.
     *
     * <p>Doors join cells at most a grid's width apart, so only a band of the matrix is held: that
     * width to the left of the diagonal, and twice as much to the right, as exchanged rows reach out.
     */
    private static final class TreeCount {
        private final Grid grid;
        private final int band;
        private final int stride;
        private final int[] placeOf;
        private final long[] entries;
        private int size;
        private long prime;

        TreeCount(Grid grid) {
            this.grid = grid;
            band = grid.width();
            stride = 3 * band + 1;
            placeOf = new int[grid.cellCount()];
            entries = new long[grid.cellCount() * stride];
        }

        long residue(long prime) {
            if (prime < 2L) {
                return -1L;
            }
            this.prime = prime;
            size = numberFreeCells() - 1;
            fillIn();
            return determinant();
        }

        private int numberFreeCells() {
            int free = 0;
            for (int cell = 0; cell < placeOf.length; cell++) {
                placeOf[cell] = free;
                if (grid.isFree(cell)) {
                    free++;
                }
            }
            return free;
        }

        private void fillIn() {
            Arrays.fill(entries, 0L);
            for (int door = 0; door < grid.doorCount(); door++) {
                int place = placeIn(grid.lesserCell(door));
                int other = placeIn(grid.greaterCell(door));
                addTo(place, place, 1L);
                addTo(other, other, 1L);
                addTo(place, other, prime - 1L);
                addTo(other, place, prime - 1L);
            }
        }

        private int placeIn(int cell) {
            return grid.isCell(cell) ? placeOf[cell] : NONE;
        }

        private void addTo(int row, int column, long summand) {
            int slot = slotOf(row, column);
            if (slot != NONE) {
                entries[slot] += summand;
            }
        }

        /** NONE outside of the band and of the matrix, where the last cell is. */
        private int slotOf(int row, int column) {
            boolean inside = row >= 0 && row < size && column >= 0 && column < size;
            boolean held = column - row >= -band && column - row <= 2 * band;
            int slot = row * stride + column - row + band;
            return inside && held && slot >= 0 && slot < entries.length ? slot : NONE;
        }

        private long entry(int row, int column) {
            int slot = slotOf(row, column);
            return slot == NONE ? 0L : entries[slot];
        }

        private long determinant() {
            long product = 1L;
            for (int step = 0; step < size; step++) {
                int pivot = pivotRow(step);
                if (pivot == NONE) {
                    return 0L;
                }
                if (pivot != step) {
                    exchangeRows(step, pivot);
                    product = prime - product;
                }
                product = times(product, entry(step, step));
                clearBelow(step);
            }
            return product;
        }

        private int pivotRow(int step) {
            for (int row = step; row <= lastRow(step); row++) {
                if (entry(row, step) != 0L) {
                    return row;
                }
            }
            return NONE;
        }

        private int lastRow(int step) {
            return Math.min(size - 1, step + band);
        }

        private int lastColumn(int step) {
            return Math.min(size - 1, step + 2 * band);
        }

        private void exchangeRows(int row, int other) {
            for (int column = row; column <= lastColumn(row); column++) {
                int slot = slotOf(row, column);
                int otherSlot = slotOf(other, column);
                if (slot != NONE && otherSlot != NONE) {
                    long kept = entries[slot];
                    entries[slot] = entries[otherSlot];
                    entries[otherSlot] = kept;
                }
            }
        }

        private void clearBelow(int step) {
            long inverse = inverse(entry(step, step));
            for (int row = step + 1; row <= lastRow(step); row++) {
                long lead = entry(row, step);
                if (lead != 0L) {
                    addRow(step, row, times(prime - lead, inverse));
                }
            }
        }

        private void addRow(int from, int to, long factor) {
            int last = lastColumn(from);
            int source = slotOf(from, from);
            int target = slotOf(to, from);
            if (source == NONE || target == NONE) {
                return;
            }
            // Side by side in both rows, so that one look at the ends holds for all between.
            int width = last - from + 1;
            if (source + width > entries.length || target + width > entries.length) {
                return;
            }
            for (int i = 0; i < width; i++) {
                long sum = entries[target + i] + times(factor, entries[source + i]);
                entries[target + i] = sum >= prime ? sum - prime : sum;
            }
        }

        private long times(long a, long b) {
            return prime < 2L ? 0L : a * b % prime;
        }

        /** By Fermat: to the power of two less than the prime. */
        private long inverse(long number) {
            long power = 1L;
            long square = number;
            for (long exponent = prime - 2L; exponent > 0L; exponent >>= 1) {
                if ((exponent & 1L) == 1L) {
                    power = times(power, square);
                }
                square = times(square, square);
            }
            return power;
        }
    }
}
