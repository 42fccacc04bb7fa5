/** Promises 12 to 16: many, at, edge, size, ring, by nets worked out by hand, and their refusals. */
public final class LevelTest {
    private static final Due DUE = new Due();

    public static void main(String[] args) {
        tetrahedronByHand();
        edgesGoFromWhereTheyWereMet();
        manyOfKnownNets();
        manyRefuses();
        atRefuses();
        edgeRefuses();
        sizeAndRingRefuse();
        cornersAreSums();
        orientationStays();
        DUE.end();
    }

    private static void ringIs(MidSkins m, int level, int f, String want) {
        String got = Nets.ringOf(m, level, f);
        DUE.holds("level " + level + " plate " + f + ": " + got + ", due " + want, got.equals(want));
    }

    private static void edgeIs(MidSkins m, int level, int e, int from, int to) {
        DUE.is("level " + level + " edge " + e + " whence", m.edge(level, e, 0), from);
        DUE.is("level " + level + " edge " + e + " whither", m.edge(level, e, 1), to);
    }

    private static void tetrahedronByHand() {
        MidSkins m = Nets.tetrahedron();
        String[] rings = {"0 1 2", "2 3 4", "4 5 0", "1 5 3", "0 2 4", "1 3 2", "0 5 1", "3 5 4"};
        for (int f = 0; f < 8; f++) ringIs(m, 1, f, rings[f]);
        int[][] edges = {{0, 1}, {1, 2}, {2, 0}, {2, 3}, {3, 4}, {4, 2}, {4, 5}, {5, 0}, {0, 4}, {1, 5}, {5, 3}, {3, 1}};
        for (int e = 0; e < 12; e++) edgeIs(m, 1, e, edges[e][0], edges[e][1]);
        int[][] at = {{0, 100, 0}, {100, 100, 0}, {100, 0, 0}, {100, 0, 100}, {0, 0, 100}, {0, 100, 100}};
        for (int c = 0; c < 6; c++) {
            for (int axis = 0; axis < 3; axis++) DUE.is("at(1, " + c + ", " + axis + ")", m.at(1, c, axis), at[c][axis]);
        }
        DUE.is("at(2, 0, 0)", m.at(2, 0, 0), 100);
        DUE.is("at(2, 0, 1)", m.at(2, 0, 1), 200);
        DUE.is("at(0, 3, 2)", m.at(0, 3, 2), 100);
        ringIs(m, 2, 0, "0 1 2");
        ringIs(m, 2, 4, "2 5 8");
        // Corner 0 of level 1 has edges 0, 2, 7, 8; they come as its plates 0, 4, 2, 6 do.
        ringIs(m, 2, 8, "0 2 8 7");
        ringIs(m, 0, 3, "1 2 3");
        DUE.is("ring(1, 0, 3)", m.ring(1, 0, 3), -1);
        DUE.is("ring(1, 0, -1)", m.ring(1, 0, -1), -1);
        DUE.is("ring(1, 0, most)", m.ring(1, 0, Integer.MAX_VALUE), -1);
        DUE.is("ring(1, 0, least)", m.ring(1, 0, Integer.MIN_VALUE), -1);
    }

    private static void edgesGoFromWhereTheyWereMet() {
        MidSkins m = Nets.tetrahedron();
        int[][] edges = {{0, 2}, {2, 1}, {1, 0}, {1, 3}, {3, 0}, {3, 2}};
        for (int e = 0; e < 6; e++) edgeIs(m, 0, e, edges[e][0], edges[e][1]);
        for (int f = 0; f < 4; f++) m.turn(f);
        int[][] turned = {{0, 1}, {1, 2}, {2, 0}, {0, 3}, {3, 1}, {2, 3}};
        for (int e = 0; e < 6; e++) edgeIs(m, 0, e, turned[e][0], turned[e][1]);
    }

    private static void manyIs(MidSkins m, int level, int... want) {
        for (int what = 0; what < 6; what++) DUE.is("many(" + level + ", " + what + ")", m.many(level, what), want[what]);
    }

    private static void manyOfKnownNets() {
        MidSkins cube = Nets.cube(10);
        manyIs(cube, 0, 8, 12, 6, 8, 0, 2);
        manyIs(cube, 1, 12, 24, 14, 0, 8, 2);
        manyIs(cube, 2, 24, 48, 26, 0, 8, 2);
        manyIs(cube, 3, 48, 96, 50, 0, 8, 2);
        MidSkins octahedron = Nets.octahedron(10);
        manyIs(octahedron, 0, 6, 12, 8, 0, 8, 2);
        manyIs(octahedron, 3, 48, 96, 50, 0, 8, 2);
        MidSkins tetrahedron = Nets.tetrahedron();
        manyIs(tetrahedron, 0, 4, 6, 4, 4, 4, 2);
        manyIs(tetrahedron, 1, 6, 12, 8, 0, 8, 2);
        int[][] apart = {{0, 1, 2}, {0, 3, 1}, {0, 2, 3}, {1, 3, 2}, {7, 4, 5}, {7, 6, 4}, {7, 5, 6}, {4, 6, 5}};
        manyIs(Nets.net(8, apart), 1, 12, 24, 16, 0, 16, 4);
        int[][] pyramid = {{0, 1, 2, 3, 4}, {1, 0, 5}, {2, 1, 5}, {3, 2, 5}, {4, 3, 5}, {0, 4, 5}};
        manyIs(Nets.net(6, pyramid), 0, 6, 10, 6, 6, 6, 2);
        manyIs(Nets.net(6, pyramid), 2, 20, 40, 22, 0, 12, 2);
        ringIs(Nets.net(6, pyramid), 1, 11, "5 9 8 7 6");
        DUE.is("corner of five edges", Nets.net(6, pyramid).size(1, 11), 5);
    }

    private static void manyRefuses() {
        MidSkins m = Nets.tetrahedron();
        DUE.is("many(-1, 0)", m.many(-1, 0), -101);
        DUE.is("many(4, 0)", m.many(4, 0), -101);
        DUE.is("many(4, 6)", m.many(4, 6), -101);
        DUE.is("many(0, 6)", m.many(0, 6), -102);
        DUE.is("many(3, -1)", m.many(3, -1), -102);
        m.undo();
        DUE.is("many, fault", m.many(3, 5), -103);
        DUE.is("many, fault behind outside", m.many(3, 6), -102);
        DUE.is("many, fault behind unknown", m.many(4, 0), -101);
    }

    private static void atRefuses() {
        MidSkins m = Nets.tetrahedron();
        DUE.is("at(4, 0, 0)", m.at(4, 0, 0), -2000000001);
        DUE.is("at(-1, 0, 0)", m.at(-1, 0, 0), -2000000001);
        DUE.is("at(0, 0, 3)", m.at(0, 0, 3), -2000000001);
        DUE.is("at(0, 0, -1)", m.at(0, 0, -1), -2000000001);
        DUE.is("at(0, 4, 0)", m.at(0, 4, 0), -2000000001);
        DUE.is("at(0, -1, 0)", m.at(0, -1, 0), -2000000001);
        DUE.is("at(1, 5, 0)", m.at(1, 5, 0), 0);
        DUE.is("at(1, 6, 0)", m.at(1, 6, 0), -2000000001);
        DUE.is("at(3, 23, 0)", m.at(3, 23, 0), m.at(2, m.edge(2, 23, 0), 0) + m.at(2, m.edge(2, 23, 1), 0));
        DUE.is("at(3, 24, 0)", m.at(3, 24, 0), -2000000001);
        m.undo();
        DUE.is("at, fault", m.at(0, 0, 0), -2000000003);
        DUE.is("at, fault ahead of the corner", m.at(0, 99, 0), -2000000003);
        DUE.is("at, fault behind the axis", m.at(0, 0, 3), -2000000001);
        DUE.is("at, fault behind the level", m.at(4, 0, 0), -2000000001);
    }

    private static void edgeRefuses() {
        MidSkins m = Nets.tetrahedron();
        DUE.is("edge(4, 0, 0)", m.edge(4, 0, 0), -101);
        DUE.is("edge(4, 0, 2)", m.edge(4, 0, 2), -101);
        DUE.is("edge(0, 0, 2)", m.edge(0, 0, 2), -102);
        DUE.is("edge(0, 99, -1)", m.edge(0, 99, -1), -102);
        DUE.is("edge(0, 6, 0)", m.edge(0, 6, 0), -101);
        DUE.is("edge(0, -1, 0)", m.edge(0, -1, 0), -101);
        DUE.is("edge(3, 48, 1)", m.edge(3, 48, 1), -101);
        DUE.holds("edge(3, 47, 1)", m.edge(3, 47, 1) >= 0);
        m.undo();
        DUE.is("edge, fault", m.edge(0, 0, 0), -103);
        DUE.is("edge, fault ahead of the edge", m.edge(0, 99, 0), -103);
        DUE.is("edge, fault behind the side", m.edge(0, 0, 2), -102);
    }

    private static void sizeAndRingRefuse() {
        MidSkins m = Nets.cube(5);
        for (int level = 0; level < 4; level++) {
            int plates = m.many(level, 2);
            DUE.is("size, last", m.size(level, plates - 1), level == 1 ? 3 : 4);
            DUE.is("size, one more", m.size(level, plates), -101);
            DUE.is("size, -1", m.size(level, -1), -101);
            DUE.is("ring, one more", m.ring(level, plates, 0), -101);
            DUE.is("ring, -1", m.ring(level, -1, 0), -101);
            DUE.is("ring, fewer", m.ring(level, 0, 4), -1);
        }
        DUE.is("size(4, 0)", m.size(4, 0), -101);
        DUE.is("size(-1, 0)", m.size(-1, 0), -101);
        DUE.is("ring(4, 0, 0)", m.ring(4, 0, 0), -101);
        m.undo();
        DUE.is("size, fault", m.size(0, 99), -103);
        DUE.is("ring, fault", m.ring(0, 99, 0), -103);
        DUE.is("size, fault behind level", m.size(4, 0), -101);
        DUE.is("ring, fault behind level", m.ring(4, 0, 0), -101);
    }

    private static void cornersAreSums() {
        MidSkins m = Nets.net(4, Nets.TETRAHEDRON);
        m.move(2, 3, 7, -8, 9);
        for (int level = 0; level < 3; level++) {
            for (int e = 0; e < m.many(level, 1); e++) {
                for (int axis = 0; axis < 3; axis++) {
                    int sum = m.at(level, m.edge(level, e, 0), axis) + m.at(level, m.edge(level, e, 1), axis);
                    DUE.is("sum", m.at(level + 1, e, axis), sum + m.moved(level + 1, e, axis));
                }
            }
        }
    }

    /** Each plate of a higher level that stands for a corner must step against the shrunk ones. */
    private static void orientationStays() {
        MidSkins m = Nets.octahedron(7);
        for (int level = 1; level < 4; level++) {
            int steps = 0;
            for (int f = 0; f < m.many(level, 2); f++) {
                for (int k = 0; k < m.size(level, f); k++) {
                    int next = m.ring(level, f, (k + 1) % m.size(level, f));
                    DUE.is("steps back", stepsFromTo(m, level, next, m.ring(level, f, k)), 1);
                    steps++;
                }
            }
            DUE.is("two steps an edge", steps, 2 * m.many(level, 1));
        }
    }

    private static int stepsFromTo(MidSkins m, int level, int a, int b) {
        int found = 0;
        for (int f = 0; f < m.many(level, 2); f++) {
            int n = m.size(level, f);
            for (int k = 0; k < n; k++) {
                if (m.ring(level, f, k) == a && m.ring(level, f, (k + 1) % n) == b) found++;
            }
        }
        return found;
    }
}
