/**
 * Closed nets of faces, refined again and again through the middles of their edges.
 * Words in capitals are those of the document that this class keeps to.
 */
public final class MidSkins {
    public static final int NONE = -1, UNKNOWN = -101, OUTSIDE = -102, STATE = -103, FULL = -104;

    // Where a number of a CORNER is answered, -101 may be such a number: these lie below them all.
    private static final int FAR_UNKNOWN = -2000000001;
    private static final int FAR_OUTSIDE = -2000000002;
    private static final int FAR_STATE = -2000000003;

    private static final int CAUSE_BASE = -10;
    private static final int NULL_CAUSE = 1;
    private static final int INDEX_CAUSE = 2;
    private static final int SIZE_CAUSE = 3;
    private static final int CAST_CAUSE = 4;

    private static final int BYTE_LANE = 0;
    private static final int SHORT_LANE = 1;
    private static final int LANES = 3;
    private static final int MOST_IN_ROW = 8;

    private static final int AXES = 3;
    private static final int LEVELS = 4;
    private static final int MOST_CORNERS = 14;
    private static final int MOST_PLATES = 14;
    private static final int LEAST_RING = 3;
    private static final int MOST_RING = 6;
    private static final int MOST_EDGES = MOST_PLATES * MOST_RING / 2;
    private static final int MOST_NUMBER = 1000;
    private static final int MOST_NEAR = 100000;

    private static final int MOST_MOVES = 40;
    private static final int MOST_MOVED = 1000;

    private static final int NO_FAULT = 0;
    private static final int NO_PLATE = 1;
    private static final int TWICE = 2;
    private static final int DOUBLE = 3;
    private static final int OPEN = 4;
    private static final int LONELY = 5;
    private static final int PINCHED = 6;
    private static final int THIN = 7;

    private static final long DIGEST_SEED = 149L;
    private static final int DIGEST_LEVEL = 2;

    private final Row hand;
    private final Skin skin;
    private int latestCause;

    public MidSkins() {
        hand = new Row();
        skin = new Skin();
        latestCause = 0;
    }

    // ---- the row at hand

    public int row(int lane, int n) {
        if (!isLane(lane) || n > MOST_IN_ROW) return OUTSIDE;
        if (n < 0) return fail(SIZE_CAUSE);
        hand.renew(lane, n);
        return n;
    }

    public int put(int lane, int i, int v) {
        if (!isLane(lane)) return OUTSIDE;
        if (hand.isLost()) return fail(NULL_CAUSE);
        if (lane != hand.lane) return fail(CAST_CAUSE);
        if (i < 0 || i >= hand.length) return fail(INDEX_CAUSE);
        hand.write(i, v);
        return 1;
    }

    public int lose() {
        if (hand.isLost()) return fail(NULL_CAUSE);
        hand.length = NONE;
        return 1;
    }

    // ---- the base

    public int corner() {
        Net base = skin.base;
        if (hand.isLost()) return fail(NULL_CAUSE);
        if (hand.length < AXES) return fail(INDEX_CAUSE);
        if (!hand.hasNumbersWithin(AXES, -MOST_NUMBER, MOST_NUMBER)) return OUTSIDE;
        if (base.corners >= MOST_CORNERS) return FULL;
        base.addCorner(hand.numbers);
        skin.forgetShapes();
        return base.corners - 1;
    }

    public int place(int c, int axis, int v) {
        Net base = skin.base;
        if (!base.hasCorner(c) || !isAxis(axis)) return UNKNOWN;
        if (!isWithin(v, MOST_NUMBER)) return OUTSIDE;
        int was = base.numbers[AXES * c + axis];
        base.numbers[AXES * c + axis] = v;
        skin.forgetNumbersAbove(0);
        return was;
    }

    public int face(int n) {
        Net base = skin.base;
        if (n < LEAST_RING || n > MOST_RING) return OUTSIDE;
        if (hand.isLost()) return fail(NULL_CAUSE);
        if (hand.length < n) return fail(INDEX_CAUSE);
        if (!hand.hasNumbersWithin(n, 0, base.corners - 1)) return UNKNOWN;
        if (base.plates >= MOST_PLATES) return FULL;
        base.addPlate(hand.numbers, n);
        skin.forgetShapes();
        return base.plates;
    }

    public int undo() {
        Net base = skin.base;
        if (base.plates == 0) return STATE;
        base.plates--;
        skin.forgetShapes();
        return base.plates;
    }

    public int turn(int f) {
        Net base = skin.base;
        if (!base.hasPlate(f)) return UNKNOWN;
        base.turnPlate(f);
        skin.forgetShapes();
        return 1;
    }

    public int clear() {
        Net base = skin.base;
        int were = base.corners;
        base.corners = 0;
        base.plates = 0;
        skin.moves.many = 0;
        skin.forgetShapes();
        return were;
    }

    public int fault(int what) {
        if (what < 0 || what > 1) return OUTSIDE;
        int found = skin.findFault();
        return what == 0 ? found : skin.check.spot;
    }

    // ---- levels

    public int many(int level, int what) {
        if (!isLevel(level)) return UNKNOWN;
        if (what < 0 || what > 5) return OUTSIDE;
        Net net = skin.reach(level);
        if (net == null) return STATE;
        switch (what) {
            case 0: return net.corners;
            case 1: return net.edges;
            case 2: return net.plates;
            case 3: return net.oddCorners();
            case 4: return net.oddPlates();
            default: return net.corners + net.plates - net.edges;
        }
    }

    public int at(int level, int c, int axis) {
        if (!isLevel(level) || !isAxis(axis)) return FAR_UNKNOWN;
        Net net = skin.reach(level);
        if (net == null) return FAR_STATE;
        if (!net.hasCorner(c)) return FAR_UNKNOWN;
        return net.numbers[AXES * c + axis];
    }

    public int edge(int level, int e, int side) {
        if (!isLevel(level)) return UNKNOWN;
        if (!isSide(side)) return OUTSIDE;
        Net net = skin.reach(level);
        if (net == null) return STATE;
        if (e < 0 || e >= net.edges) return UNKNOWN;
        return side == 0 ? net.whence(e) : net.whither(e);
    }

    public int size(int level, int f) {
        if (!isLevel(level)) return UNKNOWN;
        Net net = skin.reach(level);
        if (net == null) return STATE;
        if (!net.hasPlate(f)) return UNKNOWN;
        return net.sizeOf(f);
    }

    public int ring(int level, int f, int k) {
        if (!isLevel(level)) return UNKNOWN;
        Net net = skin.reach(level);
        if (net == null) return STATE;
        if (!net.hasPlate(f)) return UNKNOWN;
        if (k < 0 || k >= net.sizeOf(f)) return NONE;
        return net.rings[net.first[f] + k];
    }

    public int middle(int level, int f, int axis) {
        if (!isLevel(level) || !isAxis(axis)) return FAR_UNKNOWN;
        Net net = skin.reach(level);
        if (net == null) return FAR_STATE;
        if (!net.hasPlate(f)) return FAR_UNKNOWN;
        return net.sumOfPlate(f, axis);
    }

    public int box(int level, int axis, int side) {
        if (!isLevel(level) || !isAxis(axis)) return FAR_UNKNOWN;
        if (!isSide(side)) return FAR_OUTSIDE;
        Net net = skin.reach(level);
        if (net == null) return FAR_STATE;
        return side == 0 ? net.least(axis) : net.greatest(axis);
    }

    public long room(int level) {
        if (!isLevel(level)) return UNKNOWN;
        Net net = skin.reach(level);
        if (net == null) return STATE;
        return net.sixfoldRoom();
    }

    public int cut(int level, int axis, int v) {
        if (!isLevel(level) || !isAxis(axis)) return UNKNOWN;
        Net net = skin.reach(level);
        if (net == null) return STATE;
        return net.crossings(axis, v);
    }

    public int near(int level, int x, int y, int z) {
        if (!isLevel(level)) return UNKNOWN;
        if (!areWithin(x, y, z, MOST_NEAR)) return OUTSIDE;
        Net net = skin.reach(level);
        if (net == null) return STATE;
        return net.nearest(x, y, z);
    }

    // ---- moves

    public int move(int level, int c, int x, int y, int z) {
        Moves moves = skin.moves;
        if (!isMovable(level, c)) return UNKNOWN;
        if (!areWithin(x, y, z, MOST_NUMBER)) return OUTSIDE;
        if (x == 0 && y == 0 && z == 0) {
            moves.drop(level, c);
        } else {
            int m = moves.open(level, c);
            if (m == NONE) return FULL;
            moves.write(m, x, y, z);
        }
        skin.forgetNumbersAbove(level - 1);
        return moves.many;
    }

    public int moved(int level, int c, int axis) {
        if (!isMovable(level, c) || !isAxis(axis)) return 0;
        int m = skin.moves.find(level, c);
        return m == NONE ? 0 : skin.moves.numbers[AXES * m + axis];
    }

    // ---- what is told

    public int cause() {
        return latestCause;
    }

    public int count(int what) {
        switch (what) {
            case 0: return skin.base.corners;
            case 1: return skin.base.plates;
            case 2: return skin.moves.many;
            case 3: return hand.length;
            default: return OUTSIDE;
        }
    }

    public long digest() {
        Net base = skin.base;
        long h = base.mixNumbers(DIGEST_SEED);
        h = base.mixPlates(h);
        h = skin.moves.mixAll(h);
        h = mix(h, skin.findFault());
        Net net = skin.reach(DIGEST_LEVEL);
        return net == null ? h : net.mixNumbers(h);
    }

    private int fail(int why) {
        latestCause = why;
        return CAUSE_BASE - why;
    }

    private static boolean isLane(int lane) {
        return lane >= 0 && lane < LANES;
    }

    private static boolean isAxis(int axis) {
        return axis >= 0 && axis < AXES;
    }

    private static boolean isSide(int side) {
        return side == 0 || side == 1;
    }

    private static boolean isLevel(int level) {
        return level >= 0 && level < LEVELS;
    }

    private static boolean isMovable(int level, int c) {
        return level >= 1 && level < LEVELS && c >= 0 && c <= MOST_MOVED;
    }

    private static boolean isWithin(int v, int most) {
        return v >= -most && v <= most;
    }

    private static boolean areWithin(int x, int y, int z, int most) {
        return isWithin(x, most) && isWithin(y, most) && isWithin(z, most);
    }

    private static long mix(long h, int number) {
        return 31L * h + number;
    }

    /** THE ROW: one array serves all rows, so that a new row costs no new object. */
    private static final class Row {
        final int[] numbers;
        int lane;
        int length; // NONE: THE ROW is LOST

        Row() {
            numbers = new int[MOST_IN_ROW];
            lane = BYTE_LANE;
            length = NONE;
        }

        boolean isLost() {
            return length == NONE;
        }

        void renew(int newLane, int n) {
            lane = newLane;
            length = n;
            for (int i = 0; i < MOST_IN_ROW; i++) numbers[i] = 0;
        }

        void write(int i, int v) {
            if (lane == BYTE_LANE) {
                numbers[i] = (byte) v;
            } else if (lane == SHORT_LANE) {
                numbers[i] = (short) v;
            } else {
                numbers[i] = v;
            }
        }

        boolean hasNumbersWithin(int n, int least, int most) {
            for (int i = 0; i < n; i++) {
                if (numbers[i] < least || numbers[i] > most) return false;
            }
            return true;
        }
    }

    /**
     * The CORNERS, PLATES and EDGES of one LEVEL. A STEP is known by its place in rings, where the
     * PLATES lie one behind the other. What stands on a STEP back is only right without a FAULT.
     */
    private static final class Net {
        int corners;
        int plates;
        int edges;
        final int[] numbers; // x, y, z of each CORNER
        final int[] first;   // of each PLATE its first STEP; behind the last: how many STEPS
        final int[] rings;   // of each STEP the CORNER that it goes from
        final int[] plateOf; // of each STEP
        final int[] back;    // of each STEP the STEP back
        final int[] edgeOf;  // of each STEP
        final int[] met;     // of each EDGE the STEP that met it first
        final int[] degree;  // of each CORNER how many EDGES go from it
        final int[] door;    // of each CORNER the STEP from it along its least EDGE

        Net(int mostCorners, int mostPlates, int mostEdges) {
            numbers = new int[AXES * mostCorners];
            first = new int[mostPlates + 1];
            rings = new int[2 * mostEdges];
            plateOf = new int[2 * mostEdges];
            back = new int[2 * mostEdges];
            edgeOf = new int[2 * mostEdges];
            met = new int[mostEdges];
            degree = new int[mostCorners];
            door = new int[mostCorners];
        }

        boolean hasCorner(int c) {
            return c >= 0 && c < corners;
        }

        boolean hasPlate(int f) {
            return f >= 0 && f < plates;
        }

        int steps() {
            return first[plates];
        }

        int sizeOf(int f) {
            return first[f + 1] - first[f];
        }

        int stepAfter(int s) {
            int f = plateOf[s];
            return s + 1 < first[f + 1] ? s + 1 : first[f];
        }

        int stepBefore(int s) {
            int f = plateOf[s];
            return s > first[f] ? s - 1 : first[f + 1] - 1;
        }

        int stepTarget(int s) {
            return rings[stepAfter(s)];
        }

        int whence(int e) {
            return rings[met[e]];
        }

        int whither(int e) {
            return stepTarget(met[e]);
        }

        void addCorner(int[] row) {
            for (int axis = 0; axis < AXES; axis++) numbers[AXES * corners + axis] = row[axis];
            corners++;
        }

        void addPlate(int[] row, int n) {
            int start = steps();
            for (int k = 0; k < n; k++) {
                rings[start + k] = row[k];
                plateOf[start + k] = plates;
            }
            closePlate(start + n);
        }

        void closePlate(int end) {
            plates++;
            first[plates] = end;
        }

        void turnPlate(int f) {
            int low = first[f] + 1;
            int high = first[f + 1] - 1;
            while (low < high) {
                int kept = rings[low];
                rings[low] = rings[high];
                rings[high] = kept;
                low++;
                high--;
            }
        }

        void numberEdges() {
            edges = 0;
            for (int s = 0; s < steps(); s++) {
                if (back[s] < s) {
                    edgeOf[s] = edgeOf[back[s]];
                } else {
                    edgeOf[s] = edges;
                    met[edges] = s;
                    edges++;
                }
            }
        }

        void findDoors() {
            for (int c = 0; c < corners; c++) degree[c] = 0;
            for (int s = 0; s < steps(); s++) {
                int c = rings[s];
                if (degree[c] == 0 || edgeOf[s] < edgeOf[door[c]]) door[c] = s;
                degree[c]++;
            }
        }

        void shapeFrom(Net low) {
            corners = low.edges;
            shrinkPlates(low);
            for (int c = 0; c < low.corners; c++) addCornerPlate(low, c);
            numberEdges();
            findDoors();
        }

        void shrinkPlates(Net low) {
            plates = low.plates;
            for (int f = 0; f <= plates; f++) first[f] = low.first[f];
            for (int s = 0; s < steps(); s++) {
                rings[s] = low.edgeOf[s];
                plateOf[s] = low.plateOf[s];
            }
        }

        void addCornerPlate(Net low, int c) {
            int start = steps();
            int out = low.door[c];
            for (int k = 0; k < low.degree[c]; k++) {
                int into = low.stepBefore(out);
                rings[start + k] = low.edgeOf[out];
                plateOf[start + k] = plates;
                // The shrunk PLATE steps at 'into' from the EDGE of 'into' to that of 'out'.
                back[start + k] = into;
                back[into] = start + k;
                out = low.back[into];
            }
            closePlate(start + low.degree[c]);
        }

        void sumFrom(Net low) {
            for (int e = 0; e < low.edges; e++) {
                int a = AXES * low.whence(e);
                int b = AXES * low.whither(e);
                for (int axis = 0; axis < AXES; axis++) {
                    numbers[AXES * e + axis] = low.numbers[a + axis] + low.numbers[b + axis];
                }
            }
        }

        int oddCorners() {
            int found = 0;
            for (int c = 0; c < corners; c++) {
                if (degree[c] != 4) found++;
            }
            return found;
        }

        int oddPlates() {
            int found = 0;
            for (int f = 0; f < plates; f++) {
                if (sizeOf(f) != 4) found++;
            }
            return found;
        }

        int sumOfPlate(int f, int axis) {
            int sum = 0;
            for (int s = first[f]; s < first[f + 1]; s++) sum += numbers[AXES * rings[s] + axis];
            return sum;
        }

        int least(int axis) {
            int found = numbers[axis];
            for (int c = 1; c < corners; c++) found = Math.min(found, numbers[AXES * c + axis]);
            return found;
        }

        int greatest(int axis) {
            int found = numbers[axis];
            for (int c = 1; c < corners; c++) found = Math.max(found, numbers[AXES * c + axis]);
            return found;
        }

        long sixfoldRoom() {
            long sum = 0;
            for (int f = 0; f < plates; f++) {
                int p = rings[first[f]];
                for (int s = first[f] + 1; s + 1 < first[f + 1]; s++) {
                    sum += sixfoldWedge(AXES * p, AXES * rings[s], AXES * rings[s + 1]);
                }
            }
            return sum;
        }

        /** p, q, r: where the numbers of three CORNERS begin. */
        long sixfoldWedge(int p, int q, int r) {
            return numbers[p] * crossed(q + 1, r + 2, q + 2, r + 1)
                    + numbers[p + 1] * crossed(q + 2, r, q, r + 2)
                    + numbers[p + 2] * crossed(q, r + 1, q + 1, r);
        }

        long crossed(int a, int b, int c, int d) {
            return (long) numbers[a] * numbers[b] - (long) numbers[c] * numbers[d];
        }

        int crossings(int axis, int v) {
            int found = 0;
            for (int e = 0; e < edges; e++) {
                boolean belowAtStart = numbers[AXES * whence(e) + axis] < v;
                boolean belowAtEnd = numbers[AXES * whither(e) + axis] < v;
                if (belowAtStart != belowAtEnd) found++;
            }
            return found;
        }

        int nearest(int x, int y, int z) {
            int found = 0;
            long best = squareTo(0, x, y, z);
            for (int c = 1; c < corners; c++) {
                long square = squareTo(c, x, y, z);
                if (square < best) {
                    best = square;
                    found = c;
                }
            }
            return found;
        }

        long squareTo(int c, int x, int y, int z) {
            long dx = numbers[AXES * c] - x;
            long dy = numbers[AXES * c + 1] - y;
            long dz = numbers[AXES * c + 2] - z;
            return dx * dx + dy * dy + dz * dz;
        }

        long mixNumbers(long h) {
            for (int i = 0; i < AXES * corners; i++) h = mix(h, numbers[i]);
            return h;
        }

        long mixPlates(long h) {
            for (int f = 0; f < plates; f++) {
                h = mix(h, sizeOf(f));
                for (int s = first[f]; s < first[f + 1]; s++) h = mix(h, rings[s]);
            }
            return h;
        }
    }

    /** Finds THE FAULT of THE BASE; on the way it links the STEPS and numbers the EDGES. */
    private static final class Check {
        final int[] made; // by CORNER whence, CORNER whither: the STEP, NONE
        int found;
        int spot; // the PLACE

        Check() {
            made = new int[MOST_CORNERS * MOST_CORNERS];
            found = NO_PLATE;
            spot = NONE;
        }

        void look(Net base) {
            found = NO_FAULT;
            spot = NONE;
            if (base.plates == 0) {
                found = NO_PLATE;
                return;
            }
            if (tells(TWICE, plateWithTwice(base))) return;
            if (tells(DOUBLE, plateWithDouble(base))) return;
            if (tells(OPEN, plateWithOpen(base))) return;
            base.numberEdges();
            base.findDoors();
            if (tells(LONELY, cornerOfDegree(base, 0))) return;
            if (tells(PINCHED, cornerPinched(base))) return;
            tells(THIN, cornerOfDegree(base, 2));
        }

        boolean tells(int kind, int where) {
            if (where == NONE) return false;
            found = kind;
            spot = where;
            return true;
        }

        int plateWithTwice(Net base) {
            for (int f = 0; f < base.plates; f++) {
                for (int s = base.first[f]; s < base.first[f + 1]; s++) {
                    for (int t = base.first[f]; t < s; t++) {
                        if (base.rings[s] == base.rings[t]) return f;
                    }
                }
            }
            return NONE;
        }

        int plateWithDouble(Net base) {
            for (int i = 0; i < made.length; i++) made[i] = NONE;
            for (int s = 0; s < base.steps(); s++) {
                int way = MOST_CORNERS * base.rings[s] + base.stepTarget(s);
                if (made[way] != NONE) return base.plateOf[s];
                made[way] = s;
            }
            return NONE;
        }

        int plateWithOpen(Net base) {
            for (int s = 0; s < base.steps(); s++) {
                int way = MOST_CORNERS * base.stepTarget(s) + base.rings[s];
                if (made[way] == NONE) return base.plateOf[s];
                base.back[s] = made[way];
            }
            return NONE;
        }

        int cornerOfDegree(Net base, int wanted) {
            for (int c = 0; c < base.corners; c++) {
                if (base.degree[c] == wanted) return c;
            }
            return NONE;
        }

        int cornerPinched(Net base) {
            for (int c = 0; c < base.corners; c++) {
                if (ringLength(base, base.door[c], base.degree[c]) < base.degree[c]) return c;
            }
            return NONE;
        }

        /** How many PLATES the ring has that begins with the PLATE of a STEP from a CORNER. */
        int ringLength(Net base, int start, int most) {
            int out = start;
            for (int k = 1; k < most; k++) {
                out = base.back[base.stepBefore(out)];
                if (out == start) return k;
            }
            return most;
        }
    }

    /** MOVES, kept by LEVEL and CORNER rising, as digest() tells them. */
    private static final class Moves {
        final int[] levels;
        final int[] corners;
        final int[] numbers; // x, y, z of each
        int many;

        Moves() {
            levels = new int[MOST_MOVES];
            corners = new int[MOST_MOVES];
            numbers = new int[AXES * MOST_MOVES];
            many = 0;
        }

        /** How many MOVES lie before this LEVEL and CORNER: where theirs is or would be. */
        int rank(int level, int c) {
            int m = 0;
            while (m < many && (levels[m] < level || levels[m] == level && corners[m] < c)) m++;
            return m;
        }

        int find(int level, int c) {
            int m = rank(level, c);
            return m < many && levels[m] == level && corners[m] == c ? m : NONE;
        }

        /** The MOVE of this LEVEL and CORNER, a new one if need be; NONE: there is no room. */
        int open(int level, int c) {
            int m = find(level, c);
            if (m != NONE) return m;
            if (many >= MOST_MOVES) return NONE;
            m = rank(level, c);
            for (int i = many; i > m; i--) shift(i - 1, i);
            levels[m] = level;
            corners[m] = c;
            many++;
            return m;
        }

        void drop(int level, int c) {
            int m = find(level, c);
            if (m == NONE) return;
            many--;
            for (int i = m; i < many; i++) shift(i + 1, i);
        }

        void shift(int from, int to) {
            levels[to] = levels[from];
            corners[to] = corners[from];
            for (int axis = 0; axis < AXES; axis++) {
                numbers[AXES * to + axis] = numbers[AXES * from + axis];
            }
        }

        void write(int m, int x, int y, int z) {
            numbers[AXES * m] = x;
            numbers[AXES * m + 1] = y;
            numbers[AXES * m + 2] = z;
        }

        void addTo(Net net, int level) {
            for (int m = 0; m < many; m++) {
                if (levels[m] == level && net.hasCorner(corners[m])) {
                    for (int axis = 0; axis < AXES; axis++) {
                        net.numbers[AXES * corners[m] + axis] += numbers[AXES * m + axis];
                    }
                }
            }
        }

        long mixAll(long h) {
            for (int m = 0; m < many; m++) {
                h = mix(h, corners[m]);
                for (int axis = 0; axis < AXES; axis++) h = mix(h, numbers[AXES * m + axis]);
            }
            return h;
        }
    }

    /** The LEVELS. They are made when first asked for, and again only as far as a change reaches. */
    private static final class Skin {
        final Net[] nets;
        final Net base;
        final Check check;
        final Moves moves;
        boolean checked;
        int shaped; // the highest LEVEL whose PLATES and EDGES are as they should be
        int summed; // the highest LEVEL whose numbers are

        Skin() {
            nets = new Net[LEVELS];
            base = new Net(MOST_CORNERS, MOST_PLATES, MOST_EDGES);
            nets[0] = base;
            int corners = MOST_CORNERS;
            int plates = MOST_PLATES;
            int edges = MOST_EDGES;
            for (int level = 1; level < LEVELS; level++) {
                plates += corners;
                corners = edges;
                edges *= 2;
                nets[level] = new Net(corners, plates, edges);
            }
            check = new Check();
            moves = new Moves();
            checked = false;
            shaped = 0;
            summed = 0;
        }

        void forgetShapes() {
            checked = false;
            shaped = 0;
            summed = 0;
        }

        void forgetNumbersAbove(int level) {
            summed = Math.min(summed, level);
        }

        int findFault() {
            if (!checked) {
                check.look(base);
                checked = true;
            }
            return check.found;
        }

        /** The Net of a LEVEL; null: there is a FAULT. */
        Net reach(int level) {
            if (findFault() != NO_FAULT) return null;
            while (shaped < level) {
                nets[shaped + 1].shapeFrom(nets[shaped]);
                shaped++;
            }
            while (summed < level) {
                nets[summed + 1].sumFrom(nets[summed]);
                moves.addTo(nets[summed + 1], summed + 1);
                summed++;
            }
            return nets[level];
        }
    }
}
