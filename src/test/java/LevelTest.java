/** Promises 12 to 16 and LEVELS, EDGES: many, at, edge, size, ring, by nets worked out by hand, and their ends. */
public final class LevelTest {
    private static final Due DUE = new Due();
    private static final int FAR_UNKNOWN = -2000000001;
    private static final int FAR_STATE = -2000000003;

    public static void main(String[] args) {
        levelZeroIsTheBase();
        edgesAreNumberedAsTheyAreMet();
        edgesOfLevelOne();
        platesOfPlatesComeFirst();
        platesOfCornersFollow();
        plateOfACornerOfElevenEdges();
        cornersAreSums();
        cornersTakeTheirMove();
        eachStepHasOneBack();
        manyOfKnownNets();
        manyMayBeBelowZero();
        manyRefuses();
        atRefuses();
        atMayBeLikeARefusal();
        edgeRefuses();
        sizeRefuses();
        ringRefuses();
        ringHasFewer();
        levelsFollowTheBase();
        DUE.end();
    }

    private static void ringIs(MidSkins m, int level, int f, String want) {
        DUE.isText("level " + level + " plate " + f, Nets.ringOf(m, level, f), want);
    }

    private static void ringsAre(MidSkins m, int level, String... want) {
        DUE.is("level " + level + ": plates", m.many(level, 2), want.length);
        for (int f = 0; f < want.length; f++) ringIs(m, level, f, want[f]);
    }

    private static void edgesAre(MidSkins m, int level, int[][] want) {
        DUE.is("level " + level + ": edges", m.many(level, 1), want.length);
        for (int e = 0; e < want.length; e++) {
            DUE.is("level " + level + " edge " + e + " whence", m.edge(level, e, 0), want[e][0]);
            DUE.is("level " + level + " edge " + e + " whither", m.edge(level, e, 1), want[e][1]);
        }
    }

    private static void cornersAre(MidSkins m, int level, int[][] want) {
        DUE.is("level " + level + ": corners", m.many(level, 0), want.length);
        for (int c = 0; c < want.length; c++) {
            for (int axis = 0; axis < 3; axis++) {
                DUE.is("at(" + level + ", " + c + ", " + axis + ")", m.at(level, c, axis), want[c][axis]);
            }
        }
    }

    /** "LEVEL 0 is THE BASE, if THE FAULT is 0." */
    private static void levelZeroIsTheBase() {
        MidSkins m = Nets.tetrahedron();
        cornersAre(m, 0, new int[][] {{0, 0, 0}, {100, 0, 0}, {0, 100, 0}, {0, 0, 100}});
        ringsAre(m, 0, "0 2 1", "0 1 3", "0 3 2", "1 2 3");
        ringsAre(Nets.net(Nets.PYRAMID), 0, "0 1 2 3 4", "1 0 5", "2 1 5", "3 2 5", "4 3 5", "0 4 5");
    }

    /** "PLATES in order, STEPS of each in order; an EDGE and the STEP back are one; it goes from where it was met first" */
    private static void edgesAreNumberedAsTheyAreMet() {
        MidSkins m = Nets.tetrahedron();
        edgesAre(m, 0, new int[][] {{0, 2}, {2, 1}, {1, 0}, {1, 3}, {3, 0}, {3, 2}});
        Nets.turnAll(m);
        edgesAre(m, 0, new int[][] {{0, 1}, {1, 2}, {2, 0}, {0, 3}, {3, 1}, {2, 3}});
        edgesAre(Nets.net(Nets.PYRAMID), 0, new int[][] {
            {0, 1}, {1, 2}, {2, 3}, {3, 4}, {4, 0}, {0, 5}, {5, 1}, {5, 2}, {5, 3}, {5, 4}});
    }

    private static void edgesOfLevelOne() {
        edgesAre(Nets.tetrahedron(), 1, new int[][] {
            {0, 1}, {1, 2}, {2, 0}, {2, 3}, {3, 4}, {4, 2}, {4, 5}, {5, 0}, {0, 4}, {1, 5}, {5, 3}, {3, 1}});
    }

    /** "in order, one of each PLATE: the EDGES of its STEPS, in order" */
    private static void platesOfPlatesComeFirst() {
        MidSkins m = Nets.net(Nets.PYRAMID);
        String[] first = {"0 1 2 3 4", "0 5 6", "1 6 7", "2 7 8", "3 8 9", "4 9 5"};
        for (int f = 0; f < first.length; f++) ringIs(m, 1, f, first[f]);
        MidSkins t = Nets.tetrahedron();
        ringIs(t, 2, 0, "0 1 2");
        ringIs(t, 2, 4, "2 5 8");
    }

    /** "then one of each CORNER: it begins with the least of the CORNER's EDGES; behind an EDGE comes .." */
    private static void platesOfCornersFollow() {
        MidSkins t = Nets.tetrahedron();
        ringsAre(t, 1, "0 1 2", "2 3 4", "4 5 0", "1 5 3", "0 2 4", "1 3 2", "0 5 1", "3 5 4");
        // Corner 0 of level 1 has edges 0, 2, 7, 8; they come as its plates 0, 4, 2, 6 do.
        ringIs(t, 2, 8, "0 2 8 7");
        MidSkins m = Nets.net(Nets.PYRAMID);
        String[] last = {"0 4 5", "0 6 1", "1 7 2", "2 8 3", "3 9 4", "5 9 8 7 6"};
        for (int c = 0; c < last.length; c++) ringIs(m, 1, 6 + c, last[c]);
    }

    private static void plateOfACornerOfElevenEdges() {
        MidSkins m = Nets.net(Nets.HUB);
        DUE.is("hub: size", m.size(1, 14 + 11), 11);
        // Plate i steps from the hub to corner i and comes back from corner i + 1 along edge 2 i + 2.
        ringIs(m, 1, 14 + 11, "0 2 4 6 8 10 12 14 16 18 20");
        DUE.is("hub: last", m.ring(1, 14 + 11, 10), 20);
        DUE.is("hub: fewer", m.ring(1, 14 + 11, 11), -1);
        DUE.is("hub: plates", m.many(1, 2), 14 + 12);
    }

    /** "numbers of both ends together" */
    private static void cornersAreSums() {
        cornersAre(Nets.tetrahedron(), 1, new int[][] {
            {0, 100, 0}, {100, 100, 0}, {100, 0, 0}, {100, 0, 100}, {0, 0, 100}, {0, 100, 100}});
        MidSkins m = Nets.tetrahedron();
        DUE.is("at(2, 0, 0)", m.at(2, 0, 0), 100);
        DUE.is("at(2, 0, 1)", m.at(2, 0, 1), 200);
        DUE.is("at(3, 0, 1)", m.at(3, 0, 1), m.at(2, 0, 1) + m.at(2, 1, 1));
        eachIsTheSumOfItsEnds(new Fresh(() -> Nets.net(Nets.TETRAHEDRON), 100));
    }

    /** "and its MOVE, if one is told for that LEVEL and CORNER" */
    private static void cornersTakeTheirMove() {
        eachIsTheSumOfItsEnds(new Fresh(() -> {
            MidSkins m = Nets.net(Nets.TETRAHEDRON);
            m.move(1, 0, 1000, -1000, 1000);
            m.move(1, 5, 1, 2, 3);
            m.move(2, 3, 7, -8, 9);
            m.move(2, 11, -1000, 0, 0);
            m.move(3, 0, 0, 0, 1);
            m.move(3, 23, 0, 1000, 0);
            return m;
        }, 100));
    }

    private static void eachIsTheSumOfItsEnds(Fresh net) {
        for (int level = 0; level < 3; level++) {
            int edges = net.ask().many(level, 1);
            for (int e = 0; e < edges; e++) {
                int a = net.ask().edge(level, e, 0);
                int b = net.ask().edge(level, e, 1);
                for (int axis = 0; axis < 3; axis++) {
                    int sum = net.ask().at(level, a, axis) + net.ask().at(level, b, axis);
                    DUE.is("sum", net.ask().at(level + 1, e, axis), sum + net.ask().moved(level + 1, e, axis));
                }
            }
        }
    }

    /** Plates of a higher level that stand for corners must step against those that stand for plates. */
    private static void eachStepHasOneBack() {
        Fresh net = new Fresh(() -> Nets.octahedron(7), 100);
        for (int level = 1; level < 4; level++) {
            int[][] rings = net.rings(level);
            int steps = 0;
            for (int[] ring : rings) {
                for (int k = 0; k < ring.length; k++) {
                    DUE.is("steps back", stepsFromTo(rings, ring[(k + 1) % ring.length], ring[k]), 1);
                    steps++;
                }
            }
            DUE.is("two steps an edge", steps, 2 * net.ask().many(level, 1));
        }
    }

    private static int stepsFromTo(int[][] rings, int a, int b) {
        int found = 0;
        for (int[] ring : rings) {
            for (int k = 0; k < ring.length; k++) {
                if (ring[k] == a && ring[(k + 1) % ring.length] == b) found++;
            }
        }
        return found;
    }

    private static void manyIs(MidSkins m, int level, int... want) {
        for (int what = 0; what < 6; what++) {
            DUE.is("many(" + level + ", " + what + ")", m.many(level, what), want[what]);
        }
    }

    /** "CORNERS, EDGES, PLATES, CORNERS of which not four EDGES go, PLATES of which not four CORNERS are, .." */
    private static void manyOfKnownNets() {
        MidSkins cube = Nets.cube(10);
        manyIs(cube, 0, 8, 12, 6, 8, 0, 2);
        manyIs(cube, 1, 12, 24, 14, 0, 8, 2);
        manyIs(cube, 2, 24, 48, 26, 0, 8, 2);
        manyIs(cube, 3, 48, 96, 50, 0, 8, 2);
        MidSkins octahedron = Nets.octahedron(10);
        manyIs(octahedron, 0, 6, 12, 8, 0, 8, 2);
        manyIs(octahedron, 3, 48, 96, 50, 0, 8, 2);
        MidSkins tetrahedron = Nets.tetrahedron();
        manyIs(tetrahedron, 0, 4, 6, 4, 4, 4, 2);
        manyIs(tetrahedron, 1, 6, 12, 8, 0, 8, 2);
        manyIs(Nets.net(Nets.PYRAMID), 0, 6, 10, 6, 6, 6, 2);
        manyIs(Nets.net(Nets.PYRAMID), 2, 20, 40, 22, 0, 12, 2);
        manyIs(Nets.net(Nets.PRISM), 0, 12, 18, 8, 12, 2, 2);
        manyIs(Nets.net(Nets.HUB), 0, 12, 24, 14, 10, 13, 2);
    }

    /** "CORNERS and PLATES less EDGES" is 2 for one skin without holes, 4 for two, 0 with a hole. */
    private static void manyMayBeBelowZero() {
        manyIs(Nets.net(Nets.APART), 1, 12, 24, 16, 0, 16, 4);
        for (int level = 0; level <= 3; level++) {
            DUE.is("torus, level " + level, Nets.net(Nets.TORUS).many(level, 5), 0);
        }
        MidSkins great = Greatest.net();
        for (int level = 0; level <= 3; level++) DUE.is("greatest, level " + level, great.many(level, 5), -14);
    }

    /** "UNKNOWN; OUTSIDE; STATE" */
    private static void manyRefuses() {
        MidSkins m = Nets.tetrahedron();
        for (int what : new int[] {0, 5, 6, -1}) {
            Ends.refused(DUE, "many " + what + ": level", 0, 3, -101, level -> m.many(level, what));
        }
        for (int level = 0; level <= 3; level++) {
            int of = level;
            Ends.are(DUE, "many at " + level + ": what", 0, 5, -102, what -> m.many(of, what));
        }
        MidSkins faulty = Nets.faulty();
        for (int what = 0; what <= 5; what++) DUE.is("many, fault", faulty.many(3, what), -103);
        Ends.refused(DUE, "many, outside ahead of the fault", 0, 5, -102, what -> faulty.many(3, what));
        Ends.refused(DUE, "many, unknown ahead of the fault", 0, 3, -101, level -> faulty.many(level, 0));
    }

    /** "UNKNOWN, -2000000001; STATE, -2000000003. (UNKNOWN: LEVEL, axis; behind STATE: the CORNER.)" */
    private static void atRefuses() {
        MidSkins m = Nets.tetrahedron();
        Ends.are(DUE, "at: level", 0, 3, FAR_UNKNOWN, level -> m.at(level, 0, 0));
        int[] corners = {4, 6, 12, 24};
        for (int level = 0; level <= 3; level++) {
            int of = level;
            Ends.are(DUE, "at " + level + ": axis", 0, 2, FAR_UNKNOWN, axis -> m.at(of, 0, axis));
            Ends.are(DUE, "at " + level + ": corner", 0, corners[level] - 1, FAR_UNKNOWN, c -> m.at(of, c, 0));
        }
        MidSkins faulty = Nets.faulty();
        for (int level = 0; level <= 3; level++) {
            DUE.is("at, fault", faulty.at(level, 0, 0), FAR_STATE);
            int of = level;
            Ends.refused(DUE, "at, fault ahead of the corner", 0, 3, FAR_STATE, c -> faulty.at(of, c, 0));
            Ends.refused(DUE, "at, axis ahead of the fault", 0, 2, FAR_UNKNOWN, axis -> faulty.at(of, 99, axis));
        }
        Ends.refused(DUE, "at, level ahead of the fault", 0, 3, FAR_UNKNOWN, level -> faulty.at(level, 0, 0));
    }

    private static void atMayBeLikeARefusal() {
        MidSkins m = Nets.tetrahedron();
        for (int v : new int[] {-1, -101, -103}) {
            m.place(3, 2, v);
            DUE.is("at: " + v, m.at(0, 3, 2), v);
        }
    }

    /** "UNKNOWN: LEVEL; OUTSIDE: side; STATE; UNKNOWN: e" */
    private static void edgeRefuses() {
        MidSkins m = Nets.tetrahedron();
        Ends.are(DUE, "edge: level", 0, 3, -101, level -> m.edge(level, 0, 0));
        Ends.refused(DUE, "edge: level ahead of side", 0, 3, -101, level -> m.edge(level, 0, 2));
        for (int level = 0; level <= 3; level++) {
            int of = level;
            Ends.are(DUE, "edge " + level + ": side", 0, 1, -102, side -> m.edge(of, 0, side));
            Ends.are(DUE, "edge " + level + ": e", 0, (6 << level) - 1, -101, e -> m.edge(of, e, 1));
            Ends.refused(DUE, "edge " + level + ": side ahead of e", 0, 1, -102, side -> m.edge(of, 999, side));
        }
        MidSkins faulty = Nets.faulty();
        DUE.is("edge, fault", faulty.edge(0, 0, 0), -103);
        Ends.refused(DUE, "edge, fault ahead of e", 0, 5, -103, e -> faulty.edge(0, e, 0));
        Ends.refused(DUE, "edge, side ahead of the fault", 0, 1, -102, side -> faulty.edge(0, 99, side));
        Ends.refused(DUE, "edge, level ahead of the fault", 0, 3, -101, level -> faulty.edge(level, 99, 2));
    }

    /** "UNKNOWN; STATE; UNKNOWN: f" */
    private static void sizeRefuses() {
        MidSkins m = Nets.cube(5);
        int[] plates = {6, 14, 26, 50};
        Ends.are(DUE, "size: level", 0, 3, -101, level -> m.size(level, 0));
        for (int level = 0; level <= 3; level++) {
            int of = level;
            Ends.are(DUE, "size " + level + ": f", 0, plates[level] - 1, -101, f -> m.size(of, f));
            DUE.is("size, last", m.size(level, plates[level] - 1), level == 1 ? 3 : 4);
        }
        MidSkins faulty = Nets.faulty();
        DUE.is("size, fault", faulty.size(0, 0), -103);
        Ends.refused(DUE, "size, fault ahead of f", 0, 2, -103, f -> faulty.size(0, f));
        Ends.refused(DUE, "size, level ahead of the fault", 0, 3, -101, level -> faulty.size(level, 99));
    }

    /** "UNKNOWN; STATE; UNKNOWN: f" */
    private static void ringRefuses() {
        MidSkins m = Nets.cube(5);
        int[] plates = {6, 14, 26, 50};
        for (int k : new int[] {0, 4, -1}) {
            Ends.refused(DUE, "ring: level", 0, 3, -101, level -> m.ring(level, 0, k));
            for (int level = 0; level <= 3; level++) {
                int of = level;
                Ends.are(DUE, "ring " + level + ": f", 0, plates[level] - 1, -101, f -> m.ring(of, f, k));
            }
        }
        MidSkins faulty = Nets.faulty();
        for (int k : new int[] {0, 3, -1}) {
            DUE.is("ring, fault", faulty.ring(0, 0, k), -103);
            Ends.refused(DUE, "ring, fault ahead of f", 0, 2, -103, f -> faulty.ring(0, f, k));
            Ends.refused(DUE, "ring, level ahead of the fault", 0, 3, -101, level -> faulty.ring(level, 99, k));
        }
    }

    /** "The k-th CORNER of a PLATE; NONE: it has fewer." */
    private static void ringHasFewer() {
        MidSkins prism = Nets.net(Nets.PRISM);
        MidSkins pyramid = Nets.net(Nets.PYRAMID);
        fewerThan(prism, 0, 0, 6);
        fewerThan(prism, 0, 2, 4);
        fewerThan(pyramid, 0, 0, 5);
        fewerThan(pyramid, 0, 5, 3);
        fewerThan(pyramid, 1, 11, 5);
        fewerThan(pyramid, 2, 21, 4);
        fewerThan(pyramid, 3, 0, 5);
        fewerThan(pyramid, 3, 41, 4);
    }

    private static void fewerThan(MidSkins m, int level, int f, int size) {
        DUE.is("size", m.size(level, f), size);
        Ends.are(DUE, "ring(" + level + ", " + f + ", k)", 0, size - 1, MidSkins.NONE, k -> m.ring(level, f, k));
    }

    /** What was made for one base must not be told of the next one. */
    private static void levelsFollowTheBase() {
        MidSkins m = Nets.tetrahedron();
        DUE.is("before", m.many(3, 0), 24);
        m.undo();
        Nets.corner(m, 50, 50, 50);
        Nets.face(m, 1, 2, 4);
        Nets.face(m, 2, 3, 4);
        Nets.face(m, 3, 1, 4);
        manyIs(m, 0, 5, 9, 6, 2, 6, 2);
        manyIs(m, 3, 36, 72, 38, 0, 8, 2);
        edgesAre(m, 0, new int[][] {{0, 2}, {2, 1}, {1, 0}, {1, 3}, {3, 0}, {3, 2}, {2, 4}, {4, 1}, {3, 4}});
        Nets.turnAll(m);
        edgesAre(m, 0, new int[][] {{0, 1}, {1, 2}, {2, 0}, {0, 3}, {3, 1}, {2, 3}, {1, 4}, {4, 2}, {4, 3}});
        ringIs(m, 1, 6, "0 2 3");
        m.clear();
        Nets.corners(m, 4);
        Nets.faces(m, Nets.TETRAHEDRON);
        manyIs(m, 3, 24, 48, 26, 0, 8, 2);
        cornersAre(m, 1, new int[][] {{10, 1, -1}, {30, 5, -3}, {20, 4, -2}, {30, 9, -3}, {40, 10, -4}, {50, 13, -5}});
    }
}
