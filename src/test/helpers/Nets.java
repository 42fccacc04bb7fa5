/** Builds nets by the calls of the class, as a user would. */
final class Nets {
    static final int[][] TETRAHEDRON = {{0, 1, 2}, {0, 3, 1}, {0, 2, 3}, {1, 3, 2}};
    static final int[][] CUBE = {
        {0, 2, 3, 1}, {4, 5, 7, 6}, {0, 1, 5, 4}, {2, 6, 7, 3}, {0, 4, 6, 2}, {1, 3, 7, 5}};
    static final int[][] OCTAHEDRON = {
        {0, 2, 4}, {2, 1, 4}, {1, 3, 4}, {3, 0, 4}, {2, 0, 5}, {1, 2, 5}, {3, 1, 5}, {0, 3, 5}};
    static final int[][] PYRAMID = {{0, 1, 2, 3, 4}, {1, 0, 5}, {2, 1, 5}, {3, 2, 5}, {4, 3, 5}, {0, 4, 5}};
    static final int[][] PRISM = {{0, 1, 2, 3, 4, 5}, {11, 10, 9, 8, 7, 6}, {1, 0, 6, 7}, {2, 1, 7, 8},
        {3, 2, 8, 9}, {4, 3, 9, 10}, {5, 4, 10, 11}, {0, 5, 11, 6}};
    static final int[][] TORUS = cyclic(7, new int[][] {{0, 1, 3}, {0, 3, 2}});
    /** Two tetrahedra that share nothing. */
    static final int[][] APART = {
        {0, 1, 2}, {0, 3, 1}, {0, 2, 3}, {1, 3, 2}, {7, 4, 5}, {7, 6, 4}, {7, 5, 6}, {4, 6, 5}};
    /** Two tetrahedra that share corner 3. */
    static final int[][] PINCHED = {
        {0, 1, 2}, {0, 3, 1}, {0, 2, 3}, {1, 3, 2}, {3, 4, 5}, {3, 6, 4}, {3, 5, 6}, {4, 6, 5}};
    /** A tetrahedron with a corner, 4, in the middle of an edge. */
    static final int[][] THIN = {{0, 4, 1, 2}, {0, 3, 1, 4}, {0, 2, 3}, {1, 3, 2}};
    /** Two plates back to back at corner 2 with two more: 2 is pinched, all others are thin. */
    static final int[][] PINCHED_AND_THIN = {{0, 1, 2}, {0, 2, 1}, {2, 3, 4}, {2, 4, 3}};
    /** Corner 11 has eleven edges; a ring of eleven corners round it is closed by three plates. */
    static final int[][] HUB = {
        {11, 0, 1}, {11, 1, 2}, {11, 2, 3}, {11, 3, 4}, {11, 4, 5}, {11, 5, 6}, {11, 6, 7}, {11, 7, 8},
        {11, 8, 9}, {11, 9, 10}, {11, 10, 0}, {5, 4, 3, 2, 1, 0}, {9, 8, 7, 6, 5}, {0, 10, 9, 5}};

    private Nets() { }

    private static int[][] cyclic(int n, int[][] firsts) {
        int[][] rings = new int[n * firsts.length][];
        for (int i = 0; i < rings.length; i++) {
            int[] first = firsts[i / n];
            rings[i] = new int[first.length];
            for (int k = 0; k < first.length; k++) rings[i][k] = (first[k] + i) % n;
        }
        return rings;
    }

    static void hand(MidSkins m, int lane, int... numbers) {
        m.row(lane, numbers.length);
        for (int i = 0; i < numbers.length; i++) m.put(lane, i, numbers[i]);
    }

    static int corner(MidSkins m, int x, int y, int z) {
        hand(m, 2, x, y, z);
        return m.corner();
    }

    static int face(MidSkins m, int... ring) {
        hand(m, 0, ring);
        return m.face(ring.length);
    }

    static void corners(MidSkins m, int n) {
        for (int c = 0; c < n; c++) corner(m, 10 * c, c * c, -c);
    }

    static void faces(MidSkins m, int[][] rings) {
        for (int[] ring : rings) face(m, ring);
    }

    static MidSkins net(int corners, int[][] rings) {
        MidSkins m = new MidSkins();
        corners(m, corners);
        faces(m, rings);
        return m;
    }

    static int cornersOf(int[][] rings) {
        int corners = 0;
        for (int[] ring : rings) for (int c : ring) corners = Math.max(corners, c + 1);
        return corners;
    }

    static MidSkins net(int[][] rings) {
        return net(cornersOf(rings), rings);
    }

    static void turnAll(MidSkins m) {
        for (int f = 0; f < m.count(1); f++) m.turn(f);
    }

    /** Corners 0, 1, 2, 3 at the origin and out on x, y, z, seen counter-clockwise from outside. */
    static MidSkins tetrahedron(int x, int y, int z) {
        MidSkins m = new MidSkins();
        corner(m, 0, 0, 0);
        corner(m, x, 0, 0);
        corner(m, 0, y, 0);
        corner(m, 0, 0, z);
        face(m, 0, 2, 1);
        face(m, 0, 1, 3);
        face(m, 0, 3, 2);
        face(m, 1, 2, 3);
        return m;
    }

    static MidSkins tetrahedron() {
        return tetrahedron(100, 100, 100);
    }

    /** The tetrahedron without its last plate. */
    static MidSkins faulty() {
        MidSkins m = tetrahedron();
        m.undo();
        return m;
    }

    /** Corner c has x by its bit 0, y by bit 1, z by bit 2: -half or half. */
    static MidSkins cube(int half) {
        MidSkins m = new MidSkins();
        for (int c = 0; c < 8; c++) {
            corner(m, (c & 1) == 0 ? -half : half, (c & 2) == 0 ? -half : half, (c & 4) == 0 ? -half : half);
        }
        faces(m, CUBE);
        return m;
    }

    static MidSkins octahedron(int out) {
        MidSkins m = new MidSkins();
        corner(m, out, 0, 0);
        corner(m, -out, 0, 0);
        corner(m, 0, out, 0);
        corner(m, 0, -out, 0);
        corner(m, 0, 0, out);
        corner(m, 0, 0, -out);
        faces(m, OCTAHEDRON);
        return m;
    }

    static String ringOf(MidSkins m, int level, int f) {
        StringBuilder text = new StringBuilder();
        int n = m.size(level, f);
        for (int k = 0; k < n; k++) text.append(k == 0 ? "" : " ").append(m.ring(level, f, k));
        return text.toString();
    }
}
