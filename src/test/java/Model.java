import java.math.BigInteger;
import java.util.ArrayDeque;
import java.util.ArrayList;
import java.util.Arrays;
import java.util.Collections;
import java.util.HashMap;
import java.util.HashSet;
import java.util.List;
import java.util.Map;
import java.util.Set;
import java.util.TreeSet;

/**
 * The document again, as slowly and plainly as can be, to hold the class against: doors are pairs of
 * cells in a list, and each question is answered by other means than the class uses.
 */
final class Model {
    private static final long[] PRIMES = {2147483647L, 1000000007L, 998244353L};

    private final int width;
    private final int height;
    private final Numbers chance;
    private final Set<Integer> masked = new HashSet<>();
    private final Set<List<Integer>> open = new HashSet<>();
    private List<Integer> path;

    Model(int width, int height, int seed) {
        this.width = width < 1 ? 1 : width > 12 ? 12 : width;
        this.height = height < 1 ? 1 : height > 12 ? 12 : height;
        this.chance = new Numbers(seed);
    }

    private int cell(int x, int y) {
        return x < 0 || x >= width || y < 0 || y >= height ? -1 : x + width * y;
    }

    private boolean isFree(int cell) {
        return cell >= 0 && cell < width * height && !masked.contains(cell);
    }

    private List<Integer> freeCells() {
        List<Integer> all = new ArrayList<>();
        for (int cell = 0; cell < width * height; cell++) {
            if (isFree(cell)) {
                all.add(cell);
            }
        }
        return all;
    }

    private int across(int cell, int side) {
        int x = cell % width;
        int y = cell / width;
        int other = side == 0 ? cell(x, y - 1)
                : side == 1 ? cell(x + 1, y)
                : side == 2 ? cell(x, y + 1)
                : side == 3 ? cell(x - 1, y) : -1;
        return isFree(cell) && isFree(other) ? other : -1;
    }

    private static List<Integer> door(int a, int b) {
        return List.of(Math.min(a, b), Math.max(a, b));
    }

    private List<List<Integer>> allDoors() {
        List<List<Integer>> all = new ArrayList<>();
        for (int cell : freeCells()) {
            for (int side = 1; side <= 2; side++) {
                if (across(cell, side) >= 0) {
                    all.add(door(cell, across(cell, side)));
                }
            }
        }
        return all;
    }

    private void change(List<Integer> door, boolean on) {
        boolean changed = on ? open.add(door) : open.remove(door);
        if (changed) {
            path = null;
        }
    }

    private void closeAll() {
        open.clear();
        path = null;
    }

    boolean mask(int x, int y, boolean on) {
        int cell = cell(x, y);
        if (cell < 0 || masked.contains(cell) == on) {
            return false;
        }
        closeAll();
        if (on) {
            masked.add(cell);
        } else {
            masked.remove(cell);
        }
        return true;
    }

    int make(int way) {
        if (way < 0 || way > 4) {
            return -1;
        }
        closeAll();
        if (freeCells().isEmpty()) {
            return 0;
        }
        int first = freeCells().get(0);
        switch (way) {
            case 0 -> deep(first, new HashSet<>(Set.of(first)));
            case 1 -> sets();
            case 2 -> grown(first);
            case 3 -> walked(first);
            default -> combed();
        }
        return open.size();
    }

    private void deep(int here, Set<Integer> visited) {
        while (true) {
            List<Integer> next = new ArrayList<>();
            for (int side = 0; side < 4; side++) {
                int other = across(here, side);
                if (other >= 0 && !visited.contains(other)) {
                    next.add(other);
                }
            }
            if (next.isEmpty()) {
                return;
            }
            int there = next.get(chance.below(next.size()));
            change(door(here, there), true);
            visited.add(there);
            deep(there, visited);
        }
    }

    private void sets() {
        List<List<Integer>> row = allDoors();
        for (int i = row.size() - 1; i >= 1; i--) {
            Collections.swap(row, i, chance.below(i + 1));
        }
        for (List<Integer> door : row) {
            if (!reachable(door.get(0), false).contains(door.get(1))) {
                change(door, true);
            }
        }
    }

    private void grown(int first) {
        Set<Integer> tree = new HashSet<>(Set.of(first));
        while (true) {
            List<List<Integer>> out = new ArrayList<>(allDoors());
            out.removeIf(d -> tree.contains(d.get(0)) == tree.contains(d.get(1)));
            if (out.isEmpty()) {
                return;
            }
            List<Integer> door = out.get(chance.below(out.size()));
            change(door, true);
            tree.addAll(door);
        }
    }

    private void walked(int first) {
        Set<Integer> tree = new HashSet<>(Set.of(first));
        for (int start : new TreeSet<>(reachable(first, true))) {
            Map<Integer, Integer> left = new HashMap<>();
            int here = start;
            while (!tree.contains(here)) {
                List<Integer> next = new ArrayList<>();
                for (int side = 0; side < 4; side++) {
                    if (across(here, side) >= 0) {
                        next.add(across(here, side));
                    }
                }
                int there = next.get(chance.below(next.size()));
                left.put(here, there);
                here = there;
            }
            for (here = start; !tree.contains(here); here = left.get(here)) {
                change(door(here, left.get(here)), true);
                tree.add(here);
            }
        }
    }

    private void combed() {
        for (int cell : freeCells()) {
            List<Integer> next = new ArrayList<>();
            for (int side = 0; side < 4; side += 3) {
                if (across(cell, side) >= 0) {
                    next.add(across(cell, side));
                }
            }
            if (!next.isEmpty()) {
                change(door(cell, next.get(chance.below(next.size()))), true);
            }
        }
    }

    private Set<Integer> reachable(int start, boolean closedToo) {
        Set<Integer> seen = new HashSet<>(Set.of(start));
        boolean more = true;
        while (more) {
            more = false;
            for (List<Integer> door : closedToo ? allDoors() : new ArrayList<>(open)) {
                if (seen.contains(door.get(0)) != seen.contains(door.get(1))) {
                    seen.addAll(door);
                    more = true;
                }
            }
        }
        return seen;
    }

    int doors() {
        return allDoors().size();
    }

    boolean open(int x, int y, int side) {
        int cell = cell(x, y);
        int other = cell < 0 ? -1 : across(cell, side);
        return other >= 0 && open.contains(door(cell, other));
    }

    boolean set(int door, boolean on) {
        List<List<Integer>> all = allDoors();
        if (door < 0 || door >= all.size() || open.contains(all.get(door)) == on) {
            return false;
        }
        change(all.get(door), on);
        return true;
    }

    int loops(int n) {
        if (n < 0 || n > 200) {
            return -1;
        }
        int opened = 0;
        for (int i = 0; i < n; i++) {
            List<List<Integer>> closed = allDoors();
            closed.removeAll(open);
            if (!closed.isEmpty()) {
                change(closed.get(chance.below(closed.size())), true);
                opened++;
            }
        }
        return opened;
    }

    /** Paths reach each cell in the order of their sides, so the first one there is the due one. */
    int path(int from, int to) {
        path = null;
        if (!isFree(from) || !isFree(to)) {
            return -1;
        }
        Map<Integer, List<Integer>> found = new HashMap<>();
        ArrayDeque<Integer> queue = new ArrayDeque<>();
        found.put(from, List.of(from));
        queue.add(from);
        while (!queue.isEmpty()) {
            int here = queue.remove();
            for (int side = 0; side < 4; side++) {
                int there = across(here, side);
                if (there >= 0 && open.contains(door(here, there)) && !found.containsKey(there)) {
                    List<Integer> longer = new ArrayList<>(found.get(here));
                    longer.add(there);
                    found.put(there, longer);
                    queue.add(there);
                }
            }
        }
        path = found.get(to);
        return path == null ? -1 : path.size() - 1;
    }

    int at(int k) {
        return path == null || k < 0 || k >= path.size() ? -1 : path.get(k);
    }

    private int openDoorsOf(int cell) {
        int count = 0;
        for (List<Integer> door : open) {
            if (door.contains(cell)) {
                count++;
            }
        }
        return count;
    }

    int ends(int number) {
        int count = 0;
        for (int cell : freeCells()) {
            if (openDoorsOf(cell) == number) {
                count++;
            }
        }
        return count;
    }

    int parts() {
        Set<Integer> leasts = new HashSet<>();
        for (int cell : freeCells()) {
            leasts.add(Collections.min(reachable(cell, false)));
        }
        return leasts.size();
    }

    /** With one door less than cells, and in one part, no door can be one too many. */
    boolean isTree() {
        int cells = freeCells().size();
        return cells == 0 || parts() == 1 && open.size() == cells - 1;
    }

    long grade() {
        if (path == null) {
            return -1;
        }
        long sum = 0;
        for (int k = 0; k < path.size() - 1; k++) {
            int cell = path.get(k);
            Set<List<Integer>> own = new HashSet<>();
            own.add(door(cell, path.get(k + 1)));
            if (k > 0) {
                own.add(door(cell, path.get(k - 1)));
            }
            for (List<Integer> door : open) {
                if (door.contains(cell) && !own.contains(door)) {
                    sum += k + 1;
                }
            }
        }
        return sum;
    }

    long trees(int prime) {
        if (prime < 0 || prime >= PRIMES.length) {
            return -1;
        }
        return exactTrees().mod(BigInteger.valueOf(PRIMES[prime])).longValueExact();
    }

    /** Bareiss's elimination over whole numbers, without the first cell. */
    BigInteger exactTrees() {
        List<Integer> cells = freeCells();
        int n = Math.max(0, cells.size() - 1);
        BigInteger[][] m = new BigInteger[n][n];
        for (BigInteger[] row : m) {
            Arrays.fill(row, BigInteger.ZERO);
        }
        for (List<Integer> door : allDoors()) {
            int a = cells.indexOf(door.get(0)) - 1;
            int b = cells.indexOf(door.get(1)) - 1;
            if (a >= 0) {
                m[a][a] = m[a][a].add(BigInteger.ONE);
            }
            m[b][b] = m[b][b].add(BigInteger.ONE);
            if (a >= 0) {
                m[a][b] = m[a][b].subtract(BigInteger.ONE);
                m[b][a] = m[b][a].subtract(BigInteger.ONE);
            }
        }
        BigInteger last = BigInteger.ONE;
        for (int k = 0; k < n; k++) {
            // A minor of this matrix that is 0 belongs to cells that no door leads away from.
            if (m[k][k].signum() == 0) {
                return BigInteger.ZERO;
            }
            for (int i = k + 1; i < n; i++) {
                for (int j = k + 1; j < n; j++) {
                    m[i][j] = m[i][j].multiply(m[k][k]).subtract(m[i][k].multiply(m[k][j])).divide(last);
                }
            }
            last = m[k][k];
        }
        return n == 0 ? BigInteger.ONE : m[n - 1][n - 1];
    }
}
