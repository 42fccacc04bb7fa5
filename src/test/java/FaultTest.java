/** Promise 11: fault and its place, each alone and the first of several. */
public final class FaultTest {
    private static final Due DUE = new Due();

    public static void main(String[] args) {
        asking();
        noPlate();
        twice();
        doubled();
        open();
        lonely();
        pinched();
        thin();
        follows();
        DUE.end();
    }

    private static void faultIs(String what, MidSkins m, int fault, int place) {
        DUE.is(what + ": fault(0)", m.fault(0), fault);
        DUE.is(what + ": fault(1)", m.fault(1), place);
        DUE.is(what + ": level 0", m.many(0, 0), fault == 0 ? m.count(0) : -103);
        DUE.is(what + ": level 3", m.size(3, 0), fault == 0 ? m.size(0, 0) : -103);
    }

    private static void asking() {
        MidSkins m = Nets.tetrahedron();
        faultIs("tetrahedron", m, 0, -1);
        for (int what : new int[] {-1, 2, Integer.MIN_VALUE, Integer.MAX_VALUE}) {
            DUE.is("fault(" + what + ")", m.fault(what), -102);
            DUE.is("new: fault(" + what + ")", new MidSkins().fault(what), -102);
        }
        faultIs("cube", Nets.cube(5), 0, -1);
        faultIs("octahedron", Nets.octahedron(5), 0, -1);
    }

    private static void noPlate() {
        faultIs("nothing", new MidSkins(), 1, -1);
        MidSkins m = new MidSkins();
        Nets.corners(m, 3);
        faultIs("corners alone, no plate ahead of lonely", m, 1, -1);
    }

    private static void twice() {
        faultIs("twice", Nets.net(4, new int[][] {{0, 1, 2}, {0, 1, 3, 1}, {2, 2, 2}}), 2, 1);
        faultIs("twice, next to each other", Nets.net(3, new int[][] {{0, 1, 1}}), 2, 0);
        faultIs("twice, last and first", Nets.net(4, new int[][] {{0, 1, 2}, {0, 1, 2, 3, 0}}), 2, 1);
        faultIs("twice, behind a double", Nets.net(4, new int[][] {{0, 1, 2}, {0, 1, 2}, {1, 2, 3, 1, 0, 2}}), 2, 2);
    }

    private static void doubled() {
        faultIs("double", Nets.net(5, new int[][] {{0, 1, 2}, {2, 1, 3}, {0, 1, 4}, {2, 1, 4}}), 3, 2);
        faultIs("double, last step", Nets.net(4, new int[][] {{0, 1, 2}, {1, 3, 0}, {3, 2, 0}}), 3, 1);
        faultIs("double, behind an open", Nets.net(6, new int[][] {{3, 4, 5}, {0, 1, 2}, {0, 1, 3}}), 3, 2);
        MidSkins m = Nets.tetrahedron();
        Nets.face(m, 1, 2, 3);
        faultIs("double, the same plate", m, 3, 4);
    }

    private static void open() {
        faultIs("open", Nets.net(3, new int[][] {{0, 1, 2}}), 4, 0);
        MidSkins m = Nets.tetrahedron();
        m.undo();
        faultIs("open, of a tetrahedron", m, 4, 0);
        int[][] lid = {{0, 2, 3, 1}, {0, 1, 5, 4}, {2, 6, 7, 3}, {0, 4, 6, 2}, {1, 3, 7, 5}};
        faultIs("open, not the first plate", Nets.net(8, lid), 4, 1);
        Nets.corner(m, 1, 1, 1);
        faultIs("open ahead of lonely", m, 4, 0);
    }

    private static void lonely() {
        MidSkins m = Nets.tetrahedron();
        Nets.corner(m, 0, 0, 0);
        Nets.corner(m, 0, 0, 0);
        faultIs("lonely", m, 5, 4);
        faultIs("lonely, first", Nets.net(5, new int[][] {{1, 2, 3}, {1, 4, 2}, {1, 3, 4}, {2, 4, 3}}), 5, 0);
        int[][] twoOnOne = {{1, 2, 3}, {1, 4, 2}, {1, 3, 4}, {2, 4, 3}, {1, 5, 6}, {1, 7, 5}, {1, 6, 7}, {5, 7, 6}};
        faultIs("lonely ahead of pinched", Nets.net(8, twoOnOne), 5, 0);
        faultIs("lonely ahead of thin", Nets.net(4, new int[][] {{0, 1, 2}, {0, 2, 1}}), 5, 3);
    }

    private static void pinched() {
        int[][] twoOnOne = {{0, 1, 2}, {0, 3, 1}, {0, 2, 3}, {1, 3, 2}, {3, 4, 5}, {3, 6, 4}, {3, 5, 6}, {4, 6, 5}};
        faultIs("pinched", Nets.net(7, twoOnOne), 6, 3);
        int[][] thinAtZero = {{0, 1, 2}, {0, 2, 1}, {2, 3, 4}, {2, 4, 3}};
        faultIs("pinched ahead of thin", Nets.net(5, thinAtZero), 6, 2);
        int[][] apart = {{0, 1, 2}, {0, 3, 1}, {0, 2, 3}, {1, 3, 2}, {7, 4, 5}, {7, 6, 4}, {7, 5, 6}, {4, 6, 5}};
        faultIs("two nets apart", Nets.net(8, apart), 0, -1);
        int[][] thrice = {{0, 1, 2}, {0, 3, 1}, {0, 2, 3}, {1, 3, 2}, {1, 4, 5}, {1, 6, 4}, {1, 5, 6}, {4, 6, 5},
            {1, 7, 8}, {1, 9, 7}, {1, 8, 9}, {7, 9, 8}};
        faultIs("pinched of three rings", Nets.net(10, thrice), 6, 1);
    }

    private static void thin() {
        faultIs("thin", Nets.net(3, new int[][] {{0, 1, 2}, {0, 2, 1}}), 7, 0);
        int[][] splitEdge = {{0, 4, 1, 2}, {0, 3, 1, 4}, {0, 2, 3}, {1, 3, 2}};
        faultIs("thin, a corner in an edge", Nets.net(5, splitEdge), 7, 4);
    }

    private static void follows() {
        MidSkins m = Nets.tetrahedron();
        DUE.is("no fault", m.fault(0), 0);
        m.place(0, 0, 999);
        m.move(1, 0, 1, 1, 1);
        faultIs("numbers make no fault", m, 0, -1);
        for (int c = 0; c < 4; c++) for (int axis = 0; axis < 3; axis++) m.place(c, axis, 0);
        faultIs("nor do corners at one place", m, 0, -1);
        Nets.corner(m, 0, 0, 0);
        faultIs("a corner", m, 5, 4);
        m.turn(0);
        faultIs("a turn", m, 3, 1);
        m.clear();
        faultIs("clear", m, 1, -1);
    }
}
