/** Promises 17 to 21: middle, box, room, cut, near. */
public final class MeasureTest {
    private static final Due DUE = new Due();
    private static final int MOST = Integer.MAX_VALUE;
    private static final int LEAST = Integer.MIN_VALUE;
    private static final int FAR_UNKNOWN = -2000000001;
    private static final int FAR_OUTSIDE = -2000000002;
    private static final int FAR_STATE = -2000000003;

    public static void main(String[] args) {
        middleIsTheSum();
        middleDoublesWithoutMoves();
        middleTakesMoves();
        middleMayBeLikeARefusal();
        middleRefuses();
        boxIsLeastAndGreatest();
        boxOfOneSignAlone();
        boxIsOfAnyCorner();
        boxRefuses();
        roomOfKnownNets();
        roomFansFromTheFirstCorner();
        roomOfGreatNets();
        roomMayBeLikeARefusal();
        roomRefuses();
        cutCountsBothWays();
        cutAtTheNumberItself();
        cutTakesAnyNumber();
        cutRefuses();
        nearIsBySquares();
        nearOfLikeOnesIsTheLeast();
        nearOfGreatSquares();
        nearRefuses();
        DUE.end();
    }

    /** "the sum of numbers of its CORNERS", for plates of 3 to 6 and of eleven. */
    private static void middleIsTheSum() {
        MidSkins m = Nets.tetrahedron();
        for (int axis = 0; axis < 3; axis++) DUE.is("middle(0, 3)", m.middle(0, 3, axis), 100);
        DUE.is("middle(0, 0, 2)", m.middle(0, 0, 2), 0);
        DUE.is("middle(1, 4, 1)", m.middle(1, 4, 1), 100);
        DUE.is("middle of a corner's plate", m.middle(1, 5, 0), 300);
        DUE.is("middle(1, 7, 0)", m.middle(1, 7, 0), 100);
        // Corner c of these nets has 10 c, c c and -c.
        DUE.is("middle of four", Nets.net(Nets.PRISM).middle(0, 7, 0), 10 * (5 + 11 + 6));
        DUE.is("middle of five", Nets.net(Nets.PYRAMID).middle(0, 0, 1), 1 + 4 + 9 + 16);
        DUE.is("middle of six", Nets.net(Nets.PRISM).middle(0, 1, 2), -(11 + 10 + 9 + 8 + 7 + 6));
        DUE.is("middle of eleven", Nets.net(Nets.HUB).middle(1, 25, 0), 10 * (55 + 11 * 11));
    }

    /** "Without MOVES from there on that is where it shrinks to": the sum doubles as the unit halves. */
    private static void middleDoublesWithoutMoves() {
        MidSkins m = Nets.net(Nets.PRISM);
        m.move(1, 3, 7, 8, 9);
        for (int level = 1; level < 3; level++) {
            for (int f = 0; f < 20; f++) {
                for (int axis = 0; axis < 3; axis++) {
                    DUE.is("middle, a level on", m.middle(level + 1, f, axis), 2 * m.middle(level, f, axis));
                }
            }
        }
    }

    private static void middleTakesMoves() {
        MidSkins m = Nets.tetrahedron();
        m.move(2, m.ring(2, 3, 1), 5, 0, -7);
        DUE.is("middle with a move", m.middle(2, 3, 0), 405);
        DUE.is("middle with a move", m.middle(2, 3, 1), 400);
        DUE.is("middle with a move", m.middle(2, 3, 2), 393);
        DUE.is("middle, a level on", m.middle(3, 3, 0), 810);
        DUE.is("middle, a level below", m.middle(1, 3, 0), 200);
    }

    private static void middleMayBeLikeARefusal() {
        MidSkins m = Nets.tetrahedron();
        for (int v : new int[] {-1, -101, -103}) {
            m.place(3, 2, v);
            DUE.is("middle: " + v, m.middle(0, 3, 2), v);
        }
    }

    /** "-2000000001, -2000000003, as at()" */
    private static void middleRefuses() {
        MidSkins m = Nets.tetrahedron();
        Ends.are(DUE, "middle: level", 0, 3, FAR_UNKNOWN, level -> m.middle(level, 0, 0));
        int[] plates = {4, 8, 14, 26};
        for (int level = 0; level <= 3; level++) {
            int of = level;
            Ends.are(DUE, "middle " + level + ": axis", 0, 2, FAR_UNKNOWN, axis -> m.middle(of, 0, axis));
            Ends.are(DUE, "middle " + level + ": f", 0, plates[level] - 1, FAR_UNKNOWN, f -> m.middle(of, f, 0));
        }
        MidSkins faulty = Nets.faulty();
        for (int level = 0; level <= 3; level++) DUE.is("middle, fault", faulty.middle(level, 0, 0), FAR_STATE);
        Ends.refused(DUE, "middle, fault ahead of f", 0, 2, FAR_STATE, f -> faulty.middle(0, f, 0));
        Ends.refused(DUE, "middle, axis ahead of the fault", 0, 2, FAR_UNKNOWN, axis -> faulty.middle(0, 99, axis));
        Ends.refused(DUE, "middle, level ahead of the fault", 0, 3, FAR_UNKNOWN, level -> faulty.middle(level, 99, 0));
    }

    private static void boxIs(MidSkins m, int level, int axis, int least, int greatest) {
        DUE.is("box(" + level + ", " + axis + ", 0)", m.box(level, axis, 0), least);
        DUE.is("box(" + level + ", " + axis + ", 1)", m.box(level, axis, 1), greatest);
    }

    /** "The least (side 0), greatest (1) number of all CORNERS." */
    private static void boxIsLeastAndGreatest() {
        MidSkins m = Nets.tetrahedron();
        m.place(3, 2, -150);
        boxIs(m, 0, 2, -150, 0);
        boxIs(m, 0, 0, 0, 100);
        boxIs(m, 1, 2, -150, 0);
        boxIs(m, 2, 2, -300, 0);
        boxIs(m, 2, 1, 0, 200);
        m.move(1, 5, 0, 1000, 0);
        boxIs(m, 1, 1, 0, 1100);
        m.move(3, 23, 0, 0, -1000);
        DUE.is("box: the last corner's move", m.box(3, 2, 0), Math.min(-600, m.at(3, 23, 2)));
    }

    private static void boxOfOneSignAlone() {
        for (int sign = -1; sign <= 1; sign += 2) {
            MidSkins m = Nets.tetrahedron();
            for (int c = 0; c < 4; c++) m.place(c, 1, sign * (500 + c));
            boxIs(m, 0, 1, sign < 0 ? -503 : 500, sign < 0 ? -500 : 503);
            boxIs(m, 1, 1, sign < 0 ? -1005 : 1001, sign < 0 ? -1001 : 1005);
        }
    }

    /** Least and greatest may be at the first corner, the last or any other. */
    private static void boxIsOfAnyCorner() {
        for (int c = 0; c < 4; c++) {
            for (int axis = 0; axis < 3; axis++) {
                MidSkins m = Nets.tetrahedron();
                m.place(c, axis, 1000);
                DUE.is("greatest at " + c, m.box(0, axis, 1), 1000);
                m.place(c, axis, -1000);
                DUE.is("least at " + c, m.box(0, axis, 0), -1000);
            }
        }
    }

    /** "-2000000001: LEVEL, axis; -2000000002: side; -2000000003" */
    private static void boxRefuses() {
        MidSkins m = Nets.tetrahedron();
        MidSkins faulty = Nets.faulty();
        Ends.are(DUE, "box: level", 0, 3, FAR_UNKNOWN, level -> m.box(level, 0, 0));
        for (int level = 0; level <= 3; level++) {
            int of = level;
            Ends.are(DUE, "box " + level + ": axis", 0, 2, FAR_UNKNOWN, axis -> m.box(of, axis, 1));
            Ends.are(DUE, "box " + level + ": side", 0, 1, FAR_OUTSIDE, side -> m.box(of, 2, side));
            DUE.is("box, fault", faulty.box(level, 0, 0), FAR_STATE);
        }
        for (MidSkins any : new MidSkins[] {m, faulty}) {
            Ends.refused(DUE, "box: level ahead of side", 0, 3, FAR_UNKNOWN, level -> any.box(level, 0, 2));
            Ends.refused(DUE, "box: axis ahead of side", 0, 2, FAR_UNKNOWN, axis -> any.box(0, axis, -1));
            Ends.refused(DUE, "box: side ahead of the fault", 0, 1, FAR_OUTSIDE, side -> any.box(3, 0, side));
        }
    }

    /** "six times it, in units" */
    private static void roomOfKnownNets() {
        MidSkins m = Nets.tetrahedron();
        DUE.is("room(0)", m.room(0), 1000000);
        // Half of a tetrahedron is left, in units of half the length.
        DUE.is("room(1)", m.room(1), 4000000);
        Nets.turnAll(m);
        DUE.is("room(0) inside out", m.room(0), -1000000);
        DUE.is("room(1) inside out", m.room(1), -4000000);
        DUE.is("each axis counts once", Nets.tetrahedron(2, 3, 5).room(0), 30);
        DUE.is("a flat net has none", Nets.tetrahedron(2, 0, 5).room(0), 0);
        MidSkins cube = Nets.cube(1);
        DUE.is("cube: room(0)", cube.room(0), 6 * 8);
        DUE.is("cube: room(1)", cube.room(1), 5 * 64);
        MidSkins shifted = Nets.cube(1);
        for (int c = 0; c < 8; c++) shifted.place(c, 0, 500 + ((c & 1) == 0 ? -1 : 1));
        DUE.is("shifted cube: room(0)", shifted.room(0), 6 * 8);
        DUE.is("shifted cube: room(1)", shifted.room(1), 5 * 64);
        DUE.is("shifted cube: room(3)", shifted.room(3), cube.room(3));
    }

    /** Plates that are not flat: which corner is p decides. */
    private static void roomFansFromTheFirstCorner() {
        for (int[][] rings : new int[][][] {Nets.CUBE, Nets.PYRAMID, Nets.PRISM, Nets.HUB, Nets.TORUS, Nets.APART}) {
            for (int start = 0; start < 3; start++) {
                int[][] started = new int[rings.length][];
                for (int f = 0; f < rings.length; f++) started[f] = startedAt(rings[f], start);
                DUE.is("room of fans", bent(started).room(0), fans(started));
            }
        }
        int[][] other = Nets.CUBE.clone();
        other[0] = startedAt(other[0], 1);
        DUE.holds("the first corner decides", bent(Nets.CUBE).room(0) != bent(other).room(0));
    }

    private static int[] startedAt(int[] ring, int k) {
        int[] started = new int[ring.length];
        for (int i = 0; i < ring.length; i++) started[i] = ring[(i + k) % ring.length];
        return started;
    }

    /** Numbers of a corner such that no four corners lie in a plane by chance of a simple rule. */
    private static int[] bentCorner(int c) {
        return new int[] {10 * c - 31, c * c, 7 * c * c * c % 101};
    }

    private static MidSkins bent(int[][] rings) {
        MidSkins m = new MidSkins();
        for (int c = 0; c < Nets.cornersOf(rings); c++) {
            int[] at = bentCorner(c);
            Nets.corner(m, at[0], at[1], at[2]);
        }
        Nets.faces(m, rings);
        return m;
    }

    /** "of each PLATE, CORNERS p, q, r for p its first and q, r each two next ones behind, the sum of .." */
    private static long fans(int[][] rings) {
        long sum = 0;
        for (int[] ring : rings) {
            for (int k = 2; k < ring.length; k++) {
                int[] p = bentCorner(ring[0]);
                int[] q = bentCorner(ring[k - 1]);
                int[] r = bentCorner(ring[k]);
                sum += p[0] * (q[1] * r[2] - q[2] * r[1]);
                sum += p[1] * (q[2] * r[0] - q[0] * r[2]);
                sum += p[2] * (q[0] * r[1] - q[1] * r[0]);
            }
        }
        return sum;
    }

    private static void roomOfGreatNets() {
        MidSkins cube = Nets.cube(1000);
        DUE.is("great cube: room(0)", cube.room(0), 48000000000L);
        DUE.is("great cube: room(1)", cube.room(1), 320000000000L);
        DUE.is("great cube: room(3)", cube.room(3), 1000000000L * Nets.cube(1).room(3));
        Nets.turnAll(cube);
        DUE.is("great cube inside out", cube.room(1), -320000000000L);
    }

    /** "as -101, -103, which it may be else, too" */
    private static void roomMayBeLikeARefusal() {
        for (int v : new int[] {1, 101, 102, 103, 104}) {
            MidSkins m = Nets.tetrahedron(v, 1, 1);
            Nets.turnAll(m);
            DUE.is("room", m.room(0), -v);
        }
    }

    /** "UNKNOWN, STATE" */
    private static void roomRefuses() {
        MidSkins m = Nets.tetrahedron();
        MidSkins faulty = Nets.faulty();
        Ends.are(DUE, "room: level", 0, 3, -101, level -> m.room(level));
        Ends.refused(DUE, "room: level ahead of the fault", 0, 3, -101, level -> faulty.room(level));
        for (int level = 0; level <= 3; level++) DUE.is("room, fault", faulty.room(level), -103);
    }

    /** "EDGES go from below v to v or above, or the other way (v in units of the LEVEL)" */
    private static void cutCountsBothWays() {
        MidSkins cube = Nets.cube(10);
        for (int axis = 0; axis < 3; axis++) {
            DUE.is("cut(0, axis, 0)", cube.cut(0, axis, 0), 4);
            DUE.is("cut(1, axis, 1)", cube.cut(1, axis, 1), 8);
        }
        MidSkins m = Nets.tetrahedron();
        for (int axis = 0; axis < 3; axis++) DUE.is("cut of a tetrahedron", m.cut(0, axis, 50), 3);
        DUE.is("cut where edges go up and down", Nets.octahedron(10).cut(0, 2, 1), 4);
        Nets.turnAll(m);
        for (int axis = 0; axis < 3; axis++) DUE.is("cut, edges the other way", m.cut(0, axis, 50), 3);
        m.place(0, 0, 70);
        DUE.is("cut, two below and two above", m.cut(0, 0, 50), 4);
    }

    /** A number that is v itself is not below v. */
    private static void cutAtTheNumberItself() {
        MidSkins cube = Nets.cube(10);
        int[][] cuts = {{-11, 0}, {-10, 0}, {-9, 4}, {9, 4}, {10, 4}, {11, 0}};
        for (int axis = 0; axis < 3; axis++) {
            for (int[] cut : cuts) DUE.is("cut at " + cut[0], cube.cut(0, axis, cut[0]), cut[1]);
        }
        int[][] higher = {{-20, 0}, {-19, 8}, {0, 8}, {1, 8}, {20, 8}, {21, 0}};
        for (int[] cut : higher) DUE.is("cut of level 1 at " + cut[0], cube.cut(1, 2, cut[0]), cut[1]);
        MidSkins m = Nets.tetrahedron();
        int[] x = {4, 5, 5, 6};
        for (int c = 0; c < 4; c++) m.place(c, 0, x[c]);
        int[][] few = {{4, 0}, {5, 3}, {6, 3}, {7, 0}};
        for (int[] cut : few) DUE.is("cut between 4, 5, 5, 6 at " + cut[0], m.cut(0, 0, cut[0]), cut[1]);
    }

    private static void cutTakesAnyNumber() {
        MidSkins cube = Nets.cube(1000);
        for (int level = 0; level <= 3; level++) {
            for (int v : new int[] {MOST, LEAST, 100001, -100001}) DUE.is("cut at " + v, cube.cut(level, 1, v), 0);
        }
    }

    /** "UNKNOWN: LEVEL, axis; STATE" */
    private static void cutRefuses() {
        MidSkins m = Nets.tetrahedron();
        MidSkins faulty = Nets.faulty();
        Ends.are(DUE, "cut: level", 0, 3, -101, level -> m.cut(level, 0, 0));
        for (int level = 0; level <= 3; level++) {
            int of = level;
            Ends.are(DUE, "cut " + level + ": axis", 0, 2, -101, axis -> m.cut(of, axis, 0));
            DUE.is("cut, fault", faulty.cut(level, 2, 0), -103);
        }
        Ends.refused(DUE, "cut: level ahead of the fault", 0, 3, -101, level -> faulty.cut(level, 0, 0));
        Ends.refused(DUE, "cut: axis ahead of the fault", 0, 2, -101, axis -> faulty.cut(0, axis, 0));
    }

    /** "The CORNER nearest to a place (by squares, in units" */
    private static void nearIsBySquares() {
        MidSkins cube = Nets.cube(10);
        DUE.is("near, x", cube.near(0, 1, 0, 0), 1);
        DUE.is("near, y", cube.near(0, 0, 1, 0), 2);
        DUE.is("near, z", cube.near(0, 0, 0, 1), 4);
        DUE.is("near, all", cube.near(0, 1, 1, 1), 7);
        DUE.is("near is by squares, not by sums", Nets.octahedron(100).near(0, 70, 69, 69), 0);
        MidSkins m = Nets.tetrahedron();
        m.place(0, 0, 8);
        m.place(1, 0, 5);
        m.place(1, 1, 5);
        DUE.is("7.07 away, by 10 in sum, is nearer than 8 away", m.near(0, 0, 0, 0), 1);
        DUE.is("near at level 1", Nets.tetrahedron().near(1, 90, 10, 90), 3);
    }

    /** "of like ones the least" */
    private static void nearOfLikeOnesIsTheLeast() {
        MidSkins cube = Nets.cube(10);
        DUE.is("near, all alike", cube.near(0, 0, 0, 0), 0);
        DUE.is("near, four alike", cube.near(0, 5, 0, 0), 1);
        DUE.is("near, two alike", cube.near(0, 0, 5, 5), 6);
        DUE.is("near at level 1, all alike", Nets.tetrahedron().near(1, 50, 50, 50), 0);
        for (int level = 0; level <= 3; level++) {
            MidSkins m = Nets.cube(0);
            DUE.is("near, all corners at one place", m.near(level, 3, 4, 5), 0);
        }
    }

    /** Squares of some hundred thousand are too great for an int. */
    private static void nearOfGreatSquares() {
        int[] far = {-100000, -70000, -46341, 46341, 99999, 100000};
        for (int level : new int[] {0, 3}) {
            Fresh net = new Fresh(() -> Nets.cube(1000), 100);
            int[][] corners = new int[net.ask().many(level, 0)][3];
            for (int c = 0; c < corners.length; c++) {
                for (int axis = 0; axis < 3; axis++) corners[c][axis] = net.ask().at(level, c, axis);
            }
            for (int x : far) {
                for (int y : far) {
                    for (int z : far) DUE.is("near " + x + " " + y + " " + z, net.ask().near(level, x, y, z), nearest(corners, x, y, z));
                }
            }
        }
    }

    private static int nearest(int[][] corners, long x, long y, long z) {
        int found = 0;
        for (int c = 1; c < corners.length; c++) {
            if (square(corners[c], x, y, z) < square(corners[found], x, y, z)) found = c;
        }
        return found;
    }

    private static long square(int[] corner, long x, long y, long z) {
        long dx = corner[0] - x;
        long dy = corner[1] - y;
        long dz = corner[2] - z;
        return dx * dx + dy * dy + dz * dz;
    }

    /** "-100000 to 100000 each", "UNKNOWN; OUTSIDE; STATE" */
    private static void nearRefuses() {
        MidSkins m = Nets.tetrahedron();
        MidSkins faulty = Nets.faulty();
        Ends.are(DUE, "near: level", 0, 3, -101, level -> m.near(level, 0, 0, 0));
        Ends.are(DUE, "near: x", -100000, 100000, -102, v -> m.near(0, v, 0, 0));
        Ends.are(DUE, "near: y", -100000, 100000, -102, v -> m.near(1, 0, v, 0));
        Ends.are(DUE, "near: z", -100000, 100000, -102, v -> m.near(3, 0, 0, v));
        for (int level = 0; level <= 3; level++) DUE.is("near, fault", faulty.near(level, 0, 0, 100000), -103);
        for (MidSkins any : new MidSkins[] {m, faulty}) {
            Ends.refused(DUE, "near: level ahead of x", 0, 3, -101, level -> any.near(level, 100001, 0, 0));
            Ends.refused(DUE, "near: level ahead of z", 0, 3, -101, level -> any.near(level, 0, 0, -100001));
            Ends.refused(DUE, "near: x ahead of the fault", -100000, 100000, -102, v -> any.near(2, v, 0, 0));
            Ends.refused(DUE, "near: y ahead of the fault", -100000, 100000, -102, v -> any.near(2, 0, v, 0));
            Ends.refused(DUE, "near: z ahead of the fault", -100000, 100000, -102, v -> any.near(2, 0, 0, v));
        }
    }
}
