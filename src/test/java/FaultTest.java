import java.util.Arrays;

/** Promise 11 and THE FAULT: each alone with its place, the first of several, and when it is told anew. */
public final class FaultTest {
    private static final Due DUE = new Due();

    public static void main(String[] args) {
        faultRefuses();
        none();
        noPlate();
        twice();
        doubled();
        doubleOfTheClosingStep();
        open();
        openByTheClosingStep();
        lonely();
        pinched();
        thin();
        noPlateIsFirst();
        twiceIsAheadOfTheRest();
        doubleIsAheadOfTheRest();
        openIsAheadOfTheRest();
        lonelyIsAheadOfTheRest();
        pinchedIsAheadOfThin();
        eachFaultIsState();
        baseCallsFollow();
        numbersMakeNoFault();
        DUE.end();
    }

    private static void faultIs(String what, MidSkins m, int fault, int place) {
        DUE.is(what + ": fault(0)", m.fault(0), fault);
        DUE.is(what + ": fault(1)", m.fault(1), place);
        DUE.is(what + ": level 0", m.many(0, 0), fault == 0 ? m.count(0) : -103);
        DUE.is(what + ": level 3", m.size(3, 0), fault == 0 ? m.size(0, 0) : -103);
        DUE.is(what + ": fault(1) again", m.fault(1), place);
    }

    private static void faultIs(String what, int[][] rings, int fault, int place) {
        faultIs(what, Nets.net(rings), fault, place);
    }

    private static int[][] with(int[][] rings, int[]... more) {
        int[][] all = Arrays.copyOf(rings, rings.length + more.length);
        System.arraycopy(more, 0, all, rings.length, more.length);
        return all;
    }

    /** "OUTSIDE" */
    private static void faultRefuses() {
        for (MidSkins m : new MidSkins[] {new MidSkins(), Nets.tetrahedron(), Nets.faulty()}) {
            Ends.are(DUE, "fault: what", 0, 1, -102, what -> m.fault(what));
        }
    }

    /** "0 none", "NONE: it has none" */
    private static void none() {
        faultIs("tetrahedron", Nets.tetrahedron(), 0, -1);
        faultIs("cube", Nets.cube(5), 0, -1);
        faultIs("octahedron", Nets.octahedron(5), 0, -1);
        faultIs("pyramid", Nets.PYRAMID, 0, -1);
        faultIs("prism", Nets.PRISM, 0, -1);
        faultIs("torus", Nets.TORUS, 0, -1);
        faultIs("a corner of eleven edges", Nets.HUB, 0, -1);
        faultIs("two nets apart", Nets.APART, 0, -1);
        faultIs("just three edges go from each", Nets.TETRAHEDRON, 0, -1);
    }

    /** "1 there is no PLATE"; it has no place. */
    private static void noPlate() {
        faultIs("nothing", new MidSkins(), 1, -1);
        MidSkins m = Nets.net(3, new int[][] {{0, 1, 2}});
        m.undo();
        faultIs("the only plate undone", m, 1, -1);
    }

    /** "2 TWICE: a PLATE has a CORNER twice (its PLACE: the PLATE)" */
    private static void twice() {
        int[][] rings = {{0, 0, 1}, {0, 1, 1}, {0, 1, 0}, {2, 2, 2}, {0, 1, 2, 0}, {0, 1, 0, 2}, {0, 1, 2, 1},
            {1, 0, 2, 3, 0}, {0, 1, 2, 3, 4, 0}, {0, 1, 2, 3, 4, 1}, {0, 1, 2, 3, 4, 4}, {0, 1, 2, 0, 3, 4}};
        for (int[] ring : rings) {
            faultIs("twice alone", Nets.net(5, new int[][] {ring}), 2, 0);
            faultIs("twice last", Nets.net(5, with(Nets.TETRAHEDRON, ring)), 2, 4);
        }
        faultIs("twice, the first of two", Nets.net(4, new int[][] {{0, 1, 2}, {0, 1, 3, 1}, {2, 2, 2}}), 2, 1);
        faultIs("not twice: a corner in two plates", new int[][] {{0, 1, 2}, {2, 1, 0}}, 7, 0);
    }

    /** "3 DOUBLE: the least PLATE whose STEP an earlier one made already, by PLATES in order" */
    private static void doubled() {
        faultIs("double", Nets.net(5, new int[][] {{0, 1, 2}, {2, 1, 3}, {0, 1, 4}, {2, 1, 4}}), 3, 2);
        faultIs("double, the first two", new int[][] {{0, 1, 2}, {1, 2, 3}}, 3, 1);
        faultIs("double, of a longer ring", new int[][] {{0, 1, 2, 3, 4, 5}, {6, 3, 4}}, 3, 1);
        int[][] crossed = {{0, 1, 2}, {3, 4, 5}, {6, 3, 4}, {7, 0, 1}};
        faultIs("double, by the later plates' order", crossed, 3, 2);
        for (int[] ring : Nets.TETRAHEDRON) {
            faultIs("double, a plate again", with(Nets.TETRAHEDRON, ring), 3, 4);
        }
        faultIs("no double: there and back", new int[][] {{0, 1, 2}, {1, 0, 3}, {0, 2, 3}, {2, 1, 3}}, 0, -1);
    }

    /** "A STEP of a PLATE goes .. the last one to the first." */
    private static void doubleOfTheClosingStep() {
        faultIs("double, later closing step", Nets.net(4, new int[][] {{0, 1, 2}, {1, 3, 0}, {3, 2, 0}}), 3, 1);
        faultIs("double, earlier closing step", new int[][] {{0, 1, 2}, {2, 0, 3}}, 3, 1);
        faultIs("double, both closing steps", new int[][] {{0, 1, 2}, {0, 3, 4, 2}}, 3, 1);
    }

    /** "4 OPEN: a STEP has none back (the first PLATE with one)" */
    private static void open() {
        faultIs("open", new int[][] {{0, 1, 2}}, 4, 0);
        faultIs("open, of a tetrahedron", Nets.faulty(), 4, 0);
        int[][] lid = {{0, 2, 3, 1}, {0, 1, 5, 4}, {2, 6, 7, 3}, {0, 4, 6, 2}, {1, 3, 7, 5}};
        faultIs("open, not the first plate", lid, 4, 1);
        faultIs("open, the last plate", with(Nets.TETRAHEDRON, new int[] {4, 5, 6}), 4, 4);
        faultIs("open, two of them", with(Nets.TETRAHEDRON, new int[] {4, 5, 6}, new int[] {7, 8, 9}), 4, 4);
    }

    /** Of each plate just the step from the last corner to the first has none back. */
    private static void openByTheClosingStep() {
        faultIs("open, closing step", new int[][] {{1, 0, 2}, {2, 0, 3}, {3, 0, 1}}, 4, 0);
        int[][] behind = {{0, 1, 2}, {0, 3, 1}, {0, 2, 3}, {1, 3, 2}, {5, 4, 6}, {6, 4, 7}, {7, 4, 5}};
        faultIs("open, closing step of plate 4", behind, 4, 4);
    }

    /** "5 LONELY: a CORNER is in no PLATE (the CORNER)" */
    private static void lonely() {
        faultIs("lonely, last", Nets.net(5, Nets.TETRAHEDRON), 5, 4);
        faultIs("lonely, the first of two", Nets.net(6, Nets.TETRAHEDRON), 5, 4);
        faultIs("lonely, first", new int[][] {{1, 2, 3}, {1, 4, 2}, {1, 3, 4}, {2, 4, 3}}, 5, 0);
        faultIs("lonely, between", new int[][] {{0, 1, 3}, {0, 4, 1}, {0, 3, 4}, {1, 4, 3}}, 5, 2);
        faultIs("lonely, two of fourteen", Nets.net(14, Nets.HUB), 5, 12);
    }

    /** "6 PINCHED: the PLATES of a CORNER make more than one ring round it (the CORNER)" */
    private static void pinched() {
        faultIs("pinched", Nets.PINCHED, 6, 3);
        int[][] atLast = {{6, 1, 2}, {6, 3, 1}, {6, 2, 3}, {1, 3, 2}, {6, 4, 5}, {6, 0, 4}, {6, 5, 0}, {4, 0, 5}};
        faultIs("pinched, last", atLast, 6, 6);
        int[][] atFirst = {{0, 1, 2}, {0, 3, 1}, {0, 2, 3}, {1, 3, 2}, {0, 4, 5}, {0, 6, 4}, {0, 5, 6}, {4, 6, 5}};
        faultIs("pinched, first", atFirst, 6, 0);
        int[][] threeRings = {{0, 1, 2}, {0, 3, 1}, {0, 2, 3}, {1, 3, 2}, {1, 4, 5}, {1, 6, 4}, {1, 5, 6}, {4, 6, 5},
            {1, 7, 8}, {1, 9, 7}, {1, 8, 9}, {7, 9, 8}};
        faultIs("pinched of three rings", threeRings, 6, 1);
        int[][] twoPinched = {{0, 1, 2}, {0, 3, 1}, {0, 2, 3}, {1, 3, 2}, {3, 4, 5}, {3, 6, 4}, {3, 5, 6}, {4, 6, 5},
            {2, 7, 8}, {2, 9, 7}, {2, 8, 9}, {7, 9, 8}};
        faultIs("pinched, the first of two", twoPinched, 6, 2);
        int[][] mixed = {{0, 1, 2}, {3, 4, 5}, {0, 3, 1}, {3, 6, 4}, {0, 2, 3}, {3, 5, 6}, {1, 3, 2}, {4, 6, 5}};
        faultIs("pinched, plates by turns", mixed, 6, 3);
    }

    /** "7 THIN: just two EDGES go from a CORNER (the CORNER)" */
    private static void thin() {
        faultIs("thin, all", new int[][] {{0, 1, 2}, {0, 2, 1}}, 7, 0);
        faultIs("thin, last", Nets.THIN, 7, 4);
        faultIs("thin, first", new int[][] {{1, 0, 2, 3}, {1, 4, 2, 0}, {1, 3, 4}, {2, 4, 3}}, 7, 0);
        int[][] two = {{0, 4, 1, 2}, {0, 3, 1, 4}, {0, 2, 5, 3}, {1, 3, 5, 2}};
        faultIs("thin, the first of two", two, 7, 4);
    }

    private static void noPlateIsFirst() {
        for (int n : new int[] {1, 14}) {
            MidSkins m = new MidSkins();
            Nets.corners(m, n);
            faultIs("no plate ahead of lonely", m, 1, -1);
        }
    }

    private static void twiceIsAheadOfTheRest() {
        int[] twice = {0, 1, 0};
        faultIs("twice ahead of double", with(new int[][] {{0, 1, 2}, {0, 1, 2}}, twice), 2, 2);
        faultIs("twice ahead of open", with(new int[][] {{0, 1, 2}}, twice), 2, 1);
        faultIs("twice ahead of lonely", Nets.net(6, with(Nets.TETRAHEDRON, twice)), 2, 4);
        faultIs("twice ahead of pinched", with(Nets.PINCHED, twice), 2, 8);
        faultIs("twice ahead of thin", with(Nets.THIN, twice), 2, 4);
        faultIs("twice, behind a double", new int[][] {{0, 1, 2}, {0, 1, 2}, {1, 2, 3, 1, 0, 2}}, 2, 2);
    }

    private static void doubleIsAheadOfTheRest() {
        faultIs("double ahead of open", new int[][] {{3, 4, 5}, {0, 1, 2}, {0, 1, 3}}, 3, 2);
        faultIs("double ahead of lonely", Nets.net(6, with(Nets.TETRAHEDRON, Nets.TETRAHEDRON[1])), 3, 4);
        faultIs("double ahead of pinched", with(Nets.PINCHED, Nets.PINCHED[7]), 3, 8);
        faultIs("double ahead of thin", with(Nets.THIN, Nets.THIN[3]), 3, 4);
    }

    private static void openIsAheadOfTheRest() {
        MidSkins lonely = Nets.faulty();
        Nets.corner(lonely, 1, 1, 1);
        faultIs("open ahead of lonely", lonely, 4, 0);
        faultIs("open ahead of pinched", with(Nets.PINCHED, new int[] {7, 8, 9}), 4, 8);
        faultIs("open ahead of thin", with(Nets.THIN, new int[] {5, 6, 7}), 4, 4);
    }

    private static void lonelyIsAheadOfTheRest() {
        faultIs("lonely ahead of pinched", Nets.net(8, Nets.PINCHED), 5, 7);
        faultIs("lonely ahead of thin", Nets.net(4, new int[][] {{0, 1, 2}, {0, 2, 1}}), 5, 3);
        faultIs("lonely ahead of both", Nets.net(6, Nets.PINCHED_AND_THIN), 5, 5);
    }

    private static void pinchedIsAheadOfThin() {
        faultIs("pinched ahead of thin", Nets.PINCHED_AND_THIN, 6, 2);
    }

    /** "STATE (of all that asks for a LEVEL: THE FAULT is not 0)" */
    private static void eachFaultIsState() {
        noLevel("no plate", new MidSkins());
        noLevel("twice", Nets.net(new int[][] {{0, 1, 1}}));
        noLevel("double", Nets.net(with(Nets.TETRAHEDRON, Nets.TETRAHEDRON[0])));
        noLevel("open", Nets.faulty());
        noLevel("lonely", Nets.net(5, Nets.TETRAHEDRON));
        noLevel("pinched", Nets.net(Nets.PINCHED));
        noLevel("thin", Nets.net(Nets.THIN));
    }

    private static void noLevel(String what, MidSkins m) {
        for (int level = 0; level <= 3; level++) {
            DUE.is(what + ": many", m.many(level, 0), -103);
            DUE.is(what + ": at", m.at(level, 0, 0), -2000000003);
            DUE.is(what + ": edge", m.edge(level, 0, 0), -103);
            DUE.is(what + ": size", m.size(level, 0), -103);
            DUE.is(what + ": ring", m.ring(level, 0, 0), -103);
            DUE.is(what + ": middle", m.middle(level, 0, 0), -2000000003);
            DUE.is(what + ": box", m.box(level, 0, 0), -2000000003);
            DUE.is(what + ": room", m.room(level), -103);
            DUE.is(what + ": cut", m.cut(level, 0, 0), -103);
            DUE.is(what + ": near", m.near(level, 0, 0, 0), -103);
        }
        DUE.is(what + ": no cause", m.cause(), 0);
    }

    private static void baseCallsFollow() {
        MidSkins m = Nets.tetrahedron();
        faultIs("none", m, 0, -1);
        m.undo();
        faultIs("undo", m, 4, 0);
        Nets.face(m, 1, 2, 3);
        faultIs("face", m, 0, -1);
        m.turn(0);
        faultIs("turn", m, 3, 1);
        m.turn(0);
        faultIs("turn back", m, 0, -1);
        Nets.corner(m, 0, 0, 0);
        faultIs("corner", m, 5, 4);
        m.turn(0);
        faultIs("turn, with a lonely corner", m, 3, 1);
        m.clear();
        faultIs("clear", m, 1, -1);
        Nets.corners(m, 3);
        Nets.face(m, 0, 1, 2);
        faultIs("one plate", m, 4, 0);
        Nets.face(m, 2, 1, 0);
        faultIs("two plates", m, 7, 0);
    }

    private static void numbersMakeNoFault() {
        MidSkins m = Nets.tetrahedron();
        m.place(0, 0, 999);
        m.move(1, 0, 1, 1, 1);
        m.move(3, 1000, 1, 1, 1);
        faultIs("numbers make no fault", m, 0, -1);
        for (int c = 0; c < 4; c++) for (int axis = 0; axis < 3; axis++) m.place(c, axis, 0);
        faultIs("nor do corners at one place", m, 0, -1);
    }
}
