/** The greatest net there can be: 14 corners, 14 plates of six, so 42 edges. */
final class Greatest {
    /** How many calls net() spends. */
    static final int SPENT = 14 * 5 + 14 * 8;

    private static final int[][] FIRSTS = {{11, 7, 4, 3, 9, 1}, {7, 11, 5, 13, 2, 3}};

    private Greatest() { }

    static MidSkins net() {
        MidSkins m = new MidSkins();
        for (int c = 0; c < 14; c++) Nets.corner(m, corner(c)[0], corner(c)[1], corner(c)[2]);
        for (int f = 0; f < 14; f++) Nets.face(m, ring(f));
        return m;
    }

    static int[] corner(int c) {
        return new int[] {(c & 1) == 0 ? 1000 : -1000, c < 7 ? 1000 : -1000, 71 * c};
    }

    /** Plates 0 and 7 are turned seven times through the two halves of the corners. */
    static int[] ring(int f) {
        int[] ring = new int[6];
        for (int k = 0; k < 6; k++) {
            int c = FIRSTS[f / 7][k];
            ring[k] = c / 7 * 7 + (c % 7 + f) % 7;
        }
        return ring;
    }
}
