/** Promises 17 to 21: middle, box, room, cut, near. */
public final class MeasureTest {
    private static final Due DUE = new Due();
    private static final int MOST = Integer.MAX_VALUE;
    private static final int LEAST = Integer.MIN_VALUE;

    public static void main(String[] args) {
        middles();
        boxes();
        rooms();
        greatRooms();
        cuts();
        nearest();
        refusals(Nets.tetrahedron(), 0);
        MidSkins faulty = Nets.tetrahedron();
        faulty.undo();
        refusals(faulty, -103);
        DUE.end();
    }

    private static void middles() {
        MidSkins m = Nets.tetrahedron();
        for (int axis = 0; axis < 3; axis++) {
            DUE.is("middle(0, 3)", m.middle(0, 3, axis), 100);
            DUE.is("middle(1, 3)", m.middle(1, 3, axis), 200);
            DUE.is("middle(2, 3)", m.middle(2, 3, axis), 400);
            DUE.is("middle(3, 3)", m.middle(3, 3, axis), 800);
        }
        DUE.is("middle(0, 0, 2)", m.middle(0, 0, 2), 0);
        DUE.is("middle(1, 4, 1)", m.middle(1, 4, 1), 100);
        DUE.is("middle of a corner's plate", m.middle(1, 5, 0), 300);
        m.move(2, m.ring(2, 3, 1), 5, 0, -7);
        DUE.is("middle with a move", m.middle(2, 3, 0), 405);
        DUE.is("middle with a move", m.middle(2, 3, 2), 393);
        DUE.is("middle, a level on", m.middle(3, 3, 0), 810);
        DUE.is("middle, plate 4", m.middle(0, 4, 0), -2000000001);
        DUE.is("middle, plate -1", m.middle(0, -1, 0), -2000000001);
        DUE.is("middle(1, 7, 0)", m.middle(1, 7, 0), 100);
        DUE.is("middle(1, 8, 0)", m.middle(1, 8, 0), -2000000001);
    }

    private static void boxes() {
        MidSkins m = Nets.tetrahedron();
        m.place(3, 2, -150);
        DUE.is("box(0, 2, 0)", m.box(0, 2, 0), -150);
        DUE.is("box(0, 2, 1)", m.box(0, 2, 1), 0);
        DUE.is("box(0, 0, 1)", m.box(0, 0, 1), 100);
        DUE.is("box(1, 2, 0)", m.box(1, 2, 0), -150);
        DUE.is("box(2, 2, 0)", m.box(2, 2, 0), -300);
        DUE.is("box(2, 1, 0)", m.box(2, 1, 0), 0);
        DUE.is("box(2, 1, 1)", m.box(2, 1, 1), 200);
        m.move(1, 5, 0, 1000, 0);
        DUE.is("box(1, 1, 1)", m.box(1, 1, 1), 1100);
        m.place(0, 0, -1000);
        DUE.is("box, of corner 0", m.box(0, 0, 0), -1000);
    }

    private static void rooms() {
        MidSkins m = Nets.tetrahedron();
        DUE.is("room(0)", m.room(0), 1000000);
        // Half of a tetrahedron is left, in units of half the length.
        DUE.is("room(1)", m.room(1), 4000000);
        for (int f = 0; f < 4; f++) m.turn(f);
        DUE.is("room(0) inside out", m.room(0), -1000000);
        MidSkins cube = Nets.cube(1);
        DUE.is("cube: room(0)", cube.room(0), 6 * 8);
        DUE.is("cube: room(1)", cube.room(1), 5 * 64);
        MidSkins shifted = Nets.cube(1);
        for (int c = 0; c < 8; c++) shifted.place(c, 0, 500 + ((c & 1) == 0 ? -1 : 1));
        DUE.is("shifted cube: room(0)", shifted.room(0), 6 * 8);
        DUE.is("shifted cube: room(1)", shifted.room(1), 5 * 64);
        DUE.is("shifted cube: room(3)", shifted.room(3), cube.room(3));
    }

    private static void greatRooms() {
        MidSkins cube = Nets.cube(1000);
        DUE.is("great cube: room(0)", cube.room(0), 48000000000L);
        DUE.is("great cube: room(1)", cube.room(1), 320000000000L);
        DUE.is("great cube: room(3)", cube.room(3), 1000000000L * Nets.cube(1).room(3));
    }

    private static void cuts() {
        MidSkins cube = Nets.cube(10);
        DUE.is("cut(0, 0, 0)", cube.cut(0, 0, 0), 4);
        DUE.is("cut(0, 0, 10)", cube.cut(0, 0, 10), 4);
        DUE.is("cut(0, 0, 11)", cube.cut(0, 0, 11), 0);
        DUE.is("cut(0, 0, -10)", cube.cut(0, 0, -10), 0);
        DUE.is("cut(0, 0, -9)", cube.cut(0, 0, -9), 4);
        DUE.is("cut(1, 2, 0)", cube.cut(1, 2, 0), 8);
        DUE.is("cut(1, 2, 1)", cube.cut(1, 2, 1), 8);
        DUE.is("cut(1, 2, 20)", cube.cut(1, 2, 20), 8);
        DUE.is("cut(1, 2, 21)", cube.cut(1, 2, 21), 0);
        DUE.is("cut, most", cube.cut(0, 1, MOST), 0);
        DUE.is("cut, least", cube.cut(0, 1, LEAST), 0);
        MidSkins m = Nets.tetrahedron();
        for (int axis = 0; axis < 3; axis++) DUE.is("cut of a tetrahedron", m.cut(0, axis, 50), 3);
    }

    private static void nearest() {
        MidSkins cube = Nets.cube(10);
        DUE.is("near, all alike", cube.near(0, 0, 0, 0), 0);
        DUE.is("near, x", cube.near(0, 1, 0, 0), 1);
        DUE.is("near, y", cube.near(0, 0, 1, 0), 2);
        DUE.is("near, z", cube.near(0, 0, 0, 1), 4);
        DUE.is("near, all", cube.near(0, 100000, 100000, 100000), 7);
        DUE.is("near, far below", cube.near(0, -100000, -100000, -100000), 0);
        DUE.is("near, far apart", cube.near(0, 100000, -100000, 100000), 5);
        MidSkins m = Nets.tetrahedron();
        DUE.is("near at level 1", m.near(1, 90, 10, 90), 3);
        DUE.is("near at level 1, of like ones the least", m.near(1, 50, 50, 50), 0);
        DUE.is("near is by squares, not by sums", Nets.octahedron(100).near(0, 70, 69, 69), 0);
        MidSkins far = Nets.cube(1000);
        DUE.is("near, great squares", far.near(3, -100000, 100000, 99999), nearestBySearch(far, 3, -100000, 100000, 99999));
    }

    private static int nearestBySearch(MidSkins m, int level, long x, long y, long z) {
        int found = 0;
        for (int c = 1; c < m.many(level, 0); c++) {
            if (square(m, level, c, x, y, z) < square(m, level, found, x, y, z)) found = c;
        }
        return found;
    }

    private static long square(MidSkins m, int level, int c, long x, long y, long z) {
        long dx = m.at(level, c, 0) - x;
        long dy = m.at(level, c, 1) - y;
        long dz = m.at(level, c, 2) - z;
        return dx * dx + dy * dy + dz * dz;
    }

    /** state: what a call without other refusals answers, -103; 0: the net has no fault. */
    private static void refusals(MidSkins m, int state) {
        for (int level : new int[] {-1, 4, MOST, LEAST}) {
            DUE.is("middle, level", m.middle(level, 0, 0), -2000000001);
            DUE.is("box, level", m.box(level, 0, 2), -2000000001);
            DUE.is("room, level", m.room(level), -101);
            DUE.is("cut, level", m.cut(level, 0, 0), -101);
            DUE.is("near, level", m.near(level, 200000, 0, 0), -101);
        }
        for (int axis : new int[] {-1, 3, MOST, LEAST}) {
            DUE.is("middle, axis", m.middle(0, 0, axis), -2000000001);
            DUE.is("box, axis", m.box(0, axis, 2), -2000000001);
            DUE.is("cut, axis", m.cut(0, axis, 0), -101);
        }
        for (int side : new int[] {-1, 2, MOST, LEAST}) DUE.is("box, side", m.box(3, 0, side), -2000000002);
        for (int v : new int[] {-100001, 100001, MOST, LEAST}) {
            DUE.is("near, x", m.near(0, v, 0, 0), -102);
            DUE.is("near, y", m.near(0, 0, v, 0), -102);
            DUE.is("near, z", m.near(0, 0, 0, v), -102);
        }
        if (state != 0) {
            DUE.is("middle, fault", m.middle(0, 0, 0), -2000000003);
            DUE.is("middle, fault ahead of the plate", m.middle(0, 99, 0), -2000000003);
            DUE.is("box, fault", m.box(0, 0, 0), -2000000003);
            DUE.is("room, fault", m.room(3), state);
            DUE.is("cut, fault", m.cut(3, 0, 0), state);
            DUE.is("near, fault", m.near(3, 0, 0, 0), state);
        }
    }
}
