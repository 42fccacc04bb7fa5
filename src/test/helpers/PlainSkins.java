import java.util.ArrayList;
import java.util.Arrays;
import java.util.HashMap;
import java.util.List;
import java.util.Map;
import java.util.TreeMap;

/**
 * The document once more, by searching lists and keeping nothing made: slow, and written without a
 * look at how MidSkins does it, so that the two can be held against each other.
 */
final class PlainSkins {
    static final int LOST = -1;

    /** One level: numbers of corners, rings of plates, ends of edges. */
    static final class Level {
        final List<int[]> corners = new ArrayList<>();
        final List<int[]> plates = new ArrayList<>();
        final List<int[]> edges = new ArrayList<>();

        int edgeBetween(int a, int b) {
            for (int e = 0; e < edges.size(); e++) {
                int[] ends = edges.get(e);
                if (ends[0] == a && ends[1] == b || ends[0] == b && ends[1] == a) return e;
            }
            return -1;
        }

        void meetEdges() {
            for (int[] ring : plates) {
                for (int k = 0; k < ring.length; k++) {
                    int a = ring[k];
                    int b = ring[(k + 1) % ring.length];
                    if (edgeBetween(a, b) < 0) edges.add(new int[] {a, b});
                }
            }
        }

        List<Integer> edgesOf(int c) {
            List<Integer> found = new ArrayList<>();
            for (int e = 0; e < edges.size(); e++) {
                if (edges.get(e)[0] == c || edges.get(e)[1] == c) found.add(e);
            }
            return found;
        }
    }

    final List<int[]> corners = new ArrayList<>();
    final List<int[]> plates = new ArrayList<>();
    final List<TreeMap<Integer, int[]>> moves = new ArrayList<>();
    int[] row = null;
    int rowLane = 0;
    int cause = 0;

    PlainSkins() {
        for (int level = 0; level < 4; level++) moves.add(new TreeMap<>());
    }

    private int fail(int why) {
        cause = why;
        return -10 - why;
    }

    private static boolean outside(int v, int most) {
        return Math.abs((long) v) > most;
    }

    int row(int lane, int n) {
        if (lane < 0 || lane > 2 || n > 8) return -102;
        if (n < 0) return fail(3);
        row = new int[n];
        rowLane = lane;
        return n;
    }

    int put(int lane, int i, int v) {
        if (lane < 0 || lane > 2) return -102;
        if (row == null) return fail(1);
        if (lane != rowLane) return fail(4);
        if (i < 0 || i >= row.length) return fail(2);
        row[i] = lane == 0 ? (byte) v : lane == 1 ? (short) v : v;
        return 1;
    }

    int lose() {
        if (row == null) return fail(1);
        row = null;
        return 1;
    }

    int corner() {
        if (row == null) return fail(1);
        if (row.length < 3) return fail(2);
        for (int k = 0; k < 3; k++) if (outside(row[k], 1000)) return -102;
        if (corners.size() == 14) return -104;
        corners.add(Arrays.copyOf(row, 3));
        return corners.size() - 1;
    }

    int place(int c, int axis, int v) {
        if (c < 0 || c >= corners.size() || axis < 0 || axis > 2) return -101;
        if (outside(v, 1000)) return -102;
        int was = corners.get(c)[axis];
        corners.get(c)[axis] = v;
        return was;
    }

    int face(int n) {
        if (n < 3 || n > 6) return -102;
        if (row == null) return fail(1);
        if (row.length < n) return fail(2);
        for (int k = 0; k < n; k++) if (row[k] < 0 || row[k] >= corners.size()) return -101;
        if (plates.size() == 14) return -104;
        plates.add(Arrays.copyOf(row, n));
        return plates.size();
    }

    int undo() {
        if (plates.isEmpty()) return -103;
        plates.remove(plates.size() - 1);
        return plates.size();
    }

    int turn(int f) {
        if (f < 0 || f >= plates.size()) return -101;
        int[] old = plates.get(f);
        int[] ring = new int[old.length];
        for (int k = 0; k < old.length; k++) ring[k] = old[(old.length - k) % old.length];
        plates.set(f, ring);
        return 1;
    }

    int clear() {
        int were = corners.size();
        corners.clear();
        plates.clear();
        for (TreeMap<Integer, int[]> all : moves) all.clear();
        return were;
    }

    int fault(int what) {
        if (what != 0 && what != 1) return -102;
        return faultAndPlace()[what];
    }

    int[] faultAndPlace() {
        if (plates.isEmpty()) return new int[] {1, -1};
        for (int f = 0; f < plates.size(); f++) {
            if (Arrays.stream(plates.get(f)).distinct().count() < plates.get(f).length) return new int[] {2, f};
        }
        Map<List<Integer>, Integer> steps = new HashMap<>();
        for (int f = 0; f < plates.size(); f++) {
            for (List<Integer> step : stepsOf(f)) {
                if (steps.containsKey(step)) return new int[] {3, f};
                steps.put(step, f);
            }
        }
        for (int f = 0; f < plates.size(); f++) {
            for (List<Integer> step : stepsOf(f)) {
                if (!steps.containsKey(List.of(step.get(1), step.get(0)))) return new int[] {4, f};
            }
        }
        for (int c = 0; c < corners.size(); c++) if (platesAt(c).isEmpty()) return new int[] {5, c};
        for (int c = 0; c < corners.size(); c++) if (ringsRound(c, steps) > 1) return new int[] {6, c};
        for (int c = 0; c < corners.size(); c++) if (platesAt(c).size() == 2) return new int[] {7, c};
        return new int[] {0, -1};
    }

    private List<List<Integer>> stepsOf(int f) {
        List<List<Integer>> found = new ArrayList<>();
        int[] ring = plates.get(f);
        for (int k = 0; k < ring.length; k++) found.add(List.of(ring[k], ring[(k + 1) % ring.length]));
        return found;
    }

    private List<Integer> platesAt(int c) {
        List<Integer> found = new ArrayList<>();
        for (int f = 0; f < plates.size(); f++) {
            for (int d : plates.get(f)) if (d == c) found.add(f);
        }
        return found;
    }

    private int ringsRound(int c, Map<List<Integer>, Integer> steps) {
        List<Integer> left = platesAt(c);
        int rings = 0;
        while (!left.isEmpty()) {
            rings++;
            Integer f = left.get(0);
            while (left.remove(f)) {
                int from = -1;
                for (List<Integer> step : stepsOf(f)) if (step.get(1) == c) from = step.get(0);
                f = steps.get(List.of(c, from));
            }
        }
        return rings;
    }

    Level level(int k) {
        Level net = new Level();
        for (int[] c : corners) net.corners.add(c.clone());
        for (int[] f : plates) net.plates.add(f.clone());
        net.meetEdges();
        for (int up = 1; up <= k; up++) net = refined(net, up);
        return net;
    }

    private Level refined(Level low, int level) {
        Level high = new Level();
        for (int e = 0; e < low.edges.size(); e++) {
            int[] a = low.corners.get(low.edges.get(e)[0]);
            int[] b = low.corners.get(low.edges.get(e)[1]);
            int[] move = moves.get(level).getOrDefault(e, new int[3]);
            high.corners.add(new int[] {a[0] + b[0] + move[0], a[1] + b[1] + move[1], a[2] + b[2] + move[2]});
        }
        for (int[] ring : low.plates) {
            int[] small = new int[ring.length];
            for (int k = 0; k < ring.length; k++) small[k] = low.edgeBetween(ring[k], ring[(k + 1) % ring.length]);
            high.plates.add(small);
        }
        for (int c = 0; c < low.corners.size(); c++) high.plates.add(plateOfCorner(low, c));
        high.meetEdges();
        return high;
    }

    private static int[] plateOfCorner(Level low, int c) {
        List<Integer> found = new ArrayList<>();
        int e = low.edgesOf(c).get(0);
        while (!found.contains(e)) {
            found.add(e);
            int other = low.edges.get(e)[0] == c ? low.edges.get(e)[1] : low.edges.get(e)[0];
            e = low.edgeBetween(cornerBefore(low, c, other), c);
        }
        return found.stream().mapToInt(Integer::intValue).toArray();
    }

    /** In the plate that steps from c to other: the corner that comes before c. */
    private static int cornerBefore(Level low, int c, int other) {
        for (int[] ring : low.plates) {
            for (int k = 0; k < ring.length; k++) {
                if (ring[k] == c && ring[(k + 1) % ring.length] == other) return ring[(k + ring.length - 1) % ring.length];
            }
        }
        throw new IllegalStateException("no plate steps from " + c + " to " + other);
    }

    private static boolean noLevel(int level) {
        return level < 0 || level > 3;
    }

    private static boolean noAxis(int axis) {
        return axis < 0 || axis > 2;
    }

    private boolean faulty() {
        return faultAndPlace()[0] != 0;
    }

    int many(int level, int what) {
        if (noLevel(level)) return -101;
        if (what < 0 || what > 5) return -102;
        if (faulty()) return -103;
        Level net = level(level);
        int v = net.corners.size();
        int e = net.edges.size();
        int f = net.plates.size();
        int oddCorners = 0;
        for (int c = 0; c < v; c++) if (net.edgesOf(c).size() != 4) oddCorners++;
        int oddPlates = (int) net.plates.stream().filter(ring -> ring.length != 4).count();
        return new int[] {v, e, f, oddCorners, oddPlates, v + f - e}[what];
    }

    int at(int level, int c, int axis) {
        if (noLevel(level) || noAxis(axis)) return -2000000001;
        if (faulty()) return -2000000003;
        Level net = level(level);
        return c < 0 || c >= net.corners.size() ? -2000000001 : net.corners.get(c)[axis];
    }

    int edge(int level, int e, int side) {
        if (noLevel(level)) return -101;
        if (side != 0 && side != 1) return -102;
        if (faulty()) return -103;
        Level net = level(level);
        return e < 0 || e >= net.edges.size() ? -101 : net.edges.get(e)[side];
    }

    int size(int level, int f) {
        if (noLevel(level)) return -101;
        if (faulty()) return -103;
        Level net = level(level);
        return f < 0 || f >= net.plates.size() ? -101 : net.plates.get(f).length;
    }

    int ring(int level, int f, int k) {
        int n = size(level, f);
        if (n < 0) return n;
        return k < 0 || k >= n ? -1 : level(level).plates.get(f)[k];
    }

    int middle(int level, int f, int axis) {
        if (noLevel(level) || noAxis(axis)) return -2000000001;
        if (faulty()) return -2000000003;
        Level net = level(level);
        if (f < 0 || f >= net.plates.size()) return -2000000001;
        return Arrays.stream(net.plates.get(f)).map(c -> net.corners.get(c)[axis]).sum();
    }

    int box(int level, int axis, int side) {
        if (noLevel(level) || noAxis(axis)) return -2000000001;
        if (side != 0 && side != 1) return -2000000002;
        if (faulty()) return -2000000003;
        int[] all = level(level).corners.stream().mapToInt(c -> c[axis]).sorted().toArray();
        return side == 0 ? all[0] : all[all.length - 1];
    }

    long room(int level) {
        if (noLevel(level)) return -101;
        if (faulty()) return -103;
        Level net = level(level);
        long sum = 0;
        for (int[] ring : net.plates) {
            for (int k = 2; k < ring.length; k++) {
                int[] p = net.corners.get(ring[0]);
                int[] q = net.corners.get(ring[k - 1]);
                int[] r = net.corners.get(ring[k]);
                sum += (long) p[0] * ((long) q[1] * r[2] - (long) q[2] * r[1]);
                sum += (long) p[1] * ((long) q[2] * r[0] - (long) q[0] * r[2]);
                sum += (long) p[2] * ((long) q[0] * r[1] - (long) q[1] * r[0]);
            }
        }
        return sum;
    }

    int cut(int level, int axis, int v) {
        if (noLevel(level) || noAxis(axis)) return -101;
        if (faulty()) return -103;
        Level net = level(level);
        int found = 0;
        for (int[] ends : net.edges) {
            int a = net.corners.get(ends[0])[axis];
            int b = net.corners.get(ends[1])[axis];
            if (a < v && b >= v || b < v && a >= v) found++;
        }
        return found;
    }

    int near(int level, int x, int y, int z) {
        if (noLevel(level)) return -101;
        if (outside(x, 100000) || outside(y, 100000) || outside(z, 100000)) return -102;
        if (faulty()) return -103;
        Level net = level(level);
        long best = Long.MAX_VALUE;
        int found = -1;
        for (int c = 0; c < net.corners.size(); c++) {
            int[] at = net.corners.get(c);
            long dx = (long) at[0] - x;
            long dy = (long) at[1] - y;
            long dz = (long) at[2] - z;
            if (dx * dx + dy * dy + dz * dz < best) {
                best = dx * dx + dy * dy + dz * dz;
                found = c;
            }
        }
        return found;
    }

    private int moveCount() {
        return moves.get(1).size() + moves.get(2).size() + moves.get(3).size();
    }

    int move(int level, int c, int x, int y, int z) {
        if (level < 1 || level > 3 || c < 0 || c > 1000) return -101;
        if (outside(x, 1000) || outside(y, 1000) || outside(z, 1000)) return -102;
        boolean none = x == 0 && y == 0 && z == 0;
        if (!none && !moves.get(level).containsKey(c) && moveCount() == 40) return -104;
        if (none) moves.get(level).remove(c);
        else moves.get(level).put(c, new int[] {x, y, z});
        return moveCount();
    }

    int moved(int level, int c, int axis) {
        if (level < 1 || level > 3 || noAxis(axis)) return 0;
        return moves.get(level).getOrDefault(c, new int[3])[axis];
    }

    int cause() {
        return cause;
    }

    int count(int what) {
        if (what < 0 || what > 3) return -102;
        return new int[] {corners.size(), plates.size(), moveCount(), row == null ? LOST : row.length}[what];
    }

    long digest() {
        List<Integer> all = new ArrayList<>();
        for (int[] c : corners) for (int v : c) all.add(v);
        for (int[] f : plates) {
            all.add(f.length);
            for (int c : f) all.add(c);
        }
        for (TreeMap<Integer, int[]> ofLevel : moves) {
            for (Map.Entry<Integer, int[]> move : ofLevel.entrySet()) {
                all.add(move.getKey());
                for (int v : move.getValue()) all.add(v);
            }
        }
        all.add(fault(0));
        if (fault(0) == 0) for (int[] c : level(2).corners) for (int v : c) all.add(v);
        long h = 149;
        for (int v : all) h = 31 * h + v;
        return h;
    }
}
