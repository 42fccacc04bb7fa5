/** The greatest net there can be: 14 corners, 14 plates of six, so 42 edges; with all its levels. */
public final class LimitTest {
    private static final Due DUE = new Due();
    private static final int[][] FIRSTS = {{11, 7, 4, 3, 9, 1}, {7, 11, 5, 13, 2, 3}};

    public static void main(String[] args) {
        MidSkins m = new MidSkins();
        PlainSkins p = new PlainSkins();
        for (int c = 0; c < 14; c++) corner(m, p, (c & 1) == 0 ? 1000 : -1000, c < 7 ? 1000 : -1000, 71 * c);
        for (int f = 0; f < 14; f++) face(m, p, f);
        DUE.is("fault", m.fault(0), 0);
        int[] corners = {14, 42, 84, 168};
        int[] plates = {14, 28, 70, 154};
        for (int level = 0; level < 4; level++) {
            DUE.is("corners", m.many(level, 0), corners[level]);
            DUE.is("edges", m.many(level, 1), 42 << level);
            DUE.is("plates", m.many(level, 2), plates[level]);
        }
        greatMoves(m, p);
        for (int level = 0; level < 4; level++) compare(m, p, level);
        DUE.is("digest", m.digest(), p.digest());
        DUE.is("full of corners", m.corner(), -104);
        DUE.is("full of plates", m.face(6), -104);
        DUE.end();
    }

    private static void corner(MidSkins m, PlainSkins p, int x, int y, int z) {
        hand(m, p, x, y, z);
        DUE.is("corner", m.corner(), p.corner());
    }

    private static void face(MidSkins m, PlainSkins p, int f) {
        int[] ring = new int[6];
        for (int k = 0; k < 6; k++) {
            int c = FIRSTS[f / 7][k];
            ring[k] = c / 7 * 7 + (c % 7 + f) % 7;
        }
        hand(m, p, ring);
        DUE.is("face", m.face(6), p.face(6));
    }

    private static void hand(MidSkins m, PlainSkins p, int... numbers) {
        DUE.is("row", m.row(2, numbers.length), p.row(2, numbers.length));
        for (int i = 0; i < numbers.length; i++) DUE.is("put", m.put(2, i, numbers[i]), p.put(2, i, numbers[i]));
    }

    private static void greatMoves(MidSkins m, PlainSkins p) {
        int[] last = {0, 41, 83, 167};
        for (int i = 0; i < 39; i++) {
            int level = 1 + i % 3;
            int c = last[level] - i / 3;
            DUE.is("move", m.move(level, c, 1000, -1000, i), p.move(level, c, 1000, -1000, i));
        }
    }

    private static void compare(MidSkins m, PlainSkins p, int level) {
        PlainSkins.Level net = p.level(level);
        for (int c = 0; c < net.corners.size(); c++) {
            for (int axis = 0; axis < 3; axis++) DUE.is("at", m.at(level, c, axis), net.corners.get(c)[axis]);
        }
        for (int e = 0; e < net.edges.size(); e++) {
            for (int side = 0; side < 2; side++) DUE.is("edge", m.edge(level, e, side), net.edges.get(e)[side]);
        }
        for (int f = 0; f < net.plates.size(); f++) {
            int[] ring = net.plates.get(f);
            DUE.is("size", m.size(level, f), ring.length);
            for (int k = 0; k < ring.length; k++) DUE.is("ring", m.ring(level, f, k), ring[k]);
            DUE.is("ring, fewer", m.ring(level, f, ring.length), -1);
        }
        DUE.is("room", m.room(level), p.room(level));
        for (int axis = 0; axis < 3; axis++) {
            DUE.is("least", m.box(level, axis, 0), p.box(level, axis, 0));
            DUE.is("greatest", m.box(level, axis, 1), p.box(level, axis, 1));
            DUE.is("cut", m.cut(level, axis, 500), p.cut(level, axis, 500));
            DUE.is("middle", m.middle(level, 13, axis), p.middle(level, 13, axis));
        }
        DUE.is("odd corners", m.many(level, 3), p.many(level, 3));
        DUE.is("odd plates", m.many(level, 4), p.many(level, 4));
        DUE.is("corners and plates less edges", m.many(level, 5), p.many(level, 5));
        DUE.is("near", m.near(level, -1, 1, 70000), p.near(level, -1, 1, 70000));
    }
}
