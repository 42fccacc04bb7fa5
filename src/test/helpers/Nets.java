/** Builds nets by the calls of the class, as a user would. */
final class Nets {
    static final int[][] TETRAHEDRON = {{0, 1, 2}, {0, 3, 1}, {0, 2, 3}, {1, 3, 2}};
    static final int[][] CUBE = {
        {0, 2, 3, 1}, {4, 5, 7, 6}, {0, 1, 5, 4}, {2, 6, 7, 3}, {0, 4, 6, 2}, {1, 3, 7, 5}};
    static final int[][] OCTAHEDRON = {
        {0, 2, 4}, {2, 1, 4}, {1, 3, 4}, {3, 0, 4}, {2, 0, 5}, {1, 2, 5}, {3, 1, 5}, {0, 3, 5}};

    private Nets() { }

    static void hand(MidSkins m, int lane, int... numbers) {
        m.row(lane, numbers.length);
        for (int i = 0; i < numbers.length; i++) m.put(lane, i, numbers[i]);
    }

    static int corner(MidSkins m, int x, int y, int z) {
        hand(m, 2, x, y, z);
        return m.corner();
    }

    static int face(MidSkins m, int... ring) {
        hand(m, 0, ring);
        return m.face(ring.length);
    }

    static void corners(MidSkins m, int n) {
        for (int c = 0; c < n; c++) corner(m, 10 * c, c * c, -c);
    }

    static void faces(MidSkins m, int[][] rings) {
        for (int[] ring : rings) face(m, ring);
    }

    static MidSkins net(int corners, int[][] rings) {
        MidSkins m = new MidSkins();
        corners(m, corners);
        faces(m, rings);
        return m;
    }

    /** Corners 0, 1, 2, 3 at the origin and 100 out on x, y, z, seen counter-clockwise from outside. */
    static MidSkins tetrahedron() {
        MidSkins m = new MidSkins();
        corner(m, 0, 0, 0);
        corner(m, 100, 0, 0);
        corner(m, 0, 100, 0);
        corner(m, 0, 0, 100);
        face(m, 0, 2, 1);
        face(m, 0, 1, 3);
        face(m, 0, 3, 2);
        face(m, 1, 2, 3);
        return m;
    }

    /** Corner c has x by its bit 0, y by bit 1, z by bit 2: -half or half. */
    static MidSkins cube(int half) {
        MidSkins m = new MidSkins();
        for (int c = 0; c < 8; c++) {
            corner(m, (c & 1) == 0 ? -half : half, (c & 2) == 0 ? -half : half, (c & 4) == 0 ? -half : half);
        }
        faces(m, CUBE);
        return m;
    }

    static MidSkins octahedron(int out) {
        MidSkins m = new MidSkins();
        corner(m, out, 0, 0);
        corner(m, -out, 0, 0);
        corner(m, 0, out, 0);
        corner(m, 0, -out, 0);
        corner(m, 0, 0, out);
        corner(m, 0, 0, -out);
        faces(m, OCTAHEDRON);
        return m;
    }

    static String ringOf(MidSkins m, int level, int f) {
        StringBuilder text = new StringBuilder();
        for (int k = 0; k < m.size(level, f); k++) text.append(k == 0 ? "" : " ").append(m.ring(level, f, k));
        return text.toString();
    }
}
