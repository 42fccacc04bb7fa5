/** Promises 7 to 10: face, undo, turn, clear. */
public final class PlateTest {
    private static final Due DUE = new Due();

    public static void main(String[] args) {
        faceIsOfTheFirstNumbers();
        faceRefusesFewerThanThreeAndMoreThanSix();
        faceOfLostIsNull();
        faceOfShorterIsIndex();
        faceRefusesWhatIsNoCorner();
        unknownIsBehindTheCauses();
        fourteenAtMost();
        fullIsToldLast();
        faceIsNotTheRow();
        faceTakesACornerTwice();
        undoTakesTheLatest();
        undoOfNoneIsState();
        turnKeepsTheFirst();
        turnTwiceIsAsBefore();
        turnOfOnePlateAlone();
        turnRefuses();
        clearAnswersHowManyCorners();
        clearLeavesRowAndCause();
        DUE.end();
    }

    /** Numbers of corners at 0, then the rings, then the fault: what digest() is made of. */
    private static void platesAre(String what, MidSkins m, int... rings) {
        long h = Digest.on(Digest.of(new int[3 * m.count(0)]), rings);
        DUE.is(what, m.digest(), Digest.on(h, m.fault(0)));
    }

    private static MidSkins withCorners(int n) {
        MidSkins m = new MidSkins();
        m.row(0, 3);
        for (int c = 0; c < n; c++) m.corner();
        return m;
    }

    /** "A PLATE by the first n numbers (3 to 6) of THE ROW: how many PLATES." */
    private static void faceIsOfTheFirstNumbers() {
        for (int lane = 0; lane <= 2; lane++) {
            MidSkins m = withCorners(8);
            Nets.hand(m, lane, 7, 6, 5, 4, 3, 2, 99, 99);
            DUE.is("face(3)", m.face(3), 1);
            DUE.is("face(4)", m.face(4), 2);
            DUE.is("face(5)", m.face(5), 3);
            DUE.is("face(6)", m.face(6), 4);
            platesAre("faces", m, 3, 7, 6, 5, 4, 7, 6, 5, 4, 5, 7, 6, 5, 4, 3, 6, 7, 6, 5, 4, 3, 2);
            DUE.is("face: count", m.count(1), 4);
            DUE.is("face: the row stays", m.count(3), 8);
            DUE.is("face: no cause", m.cause(), 0);
        }
        MidSkins m = withCorners(3);
        Nets.hand(m, 2, 0, 1, 2, 99);
        DUE.is("face: the fourth number is not looked at", m.face(3), 1);
        DUE.is("face: the fourth number is looked at", m.face(4), -101);
    }

    /** "OUTSIDE: n", ahead of all else. */
    private static void faceRefusesFewerThanThreeAndMoreThanSix() {
        MidSkins m = withCorners(8);
        Nets.hand(m, 0, 0, 1, 2, 3, 4, 5, 6, 7);
        Ends.are(DUE, "face: n", 3, 6, -102, n -> m.face(n));
        DUE.is("face: those that were taken", m.count(1), 2);
        for (int n : new int[] {0, 1, 8}) DUE.is("face " + n, m.face(n), -102);
        m.row(2, 2);
        m.put(2, 0, 99);
        Ends.refused(DUE, "face of a short row: n", 3, 6, -102, n -> m.face(n));
        m.lose();
        Ends.refused(DUE, "face of a lost row: n", 3, 6, -102, n -> m.face(n));
        DUE.is("face: no cause", m.cause(), 0);
    }

    /** "NULL" */
    private static void faceOfLostIsNull() {
        for (int n = 3; n <= 6; n++) {
            MidSkins m = withCorners(6);
            m.lose();
            DUE.is("face: null", m.face(n), -11);
            DUE.is("face: cause", m.cause(), 1);
            DUE.is("face: none was made", m.count(1), 0);
        }
    }

    /** "INDEX": the row has fewer than n numbers. */
    private static void faceOfShorterIsIndex() {
        for (int lane = 0; lane <= 2; lane++) {
            for (int n = 3; n <= 6; n++) {
                MidSkins m = withCorners(6);
                for (int length = 0; length < n; length++) {
                    m.row(lane, length);
                    DUE.is("face(" + n + ") of " + length, m.face(n), -12);
                }
                DUE.is("face: cause", m.cause(), 2);
                DUE.is("face: none was made", m.count(1), 0);
                m.row(lane, n);
                DUE.is("face(" + n + ") of as many", m.face(n), 1);
            }
        }
    }

    /** "UNKNOWN: a number is no CORNER", at each place of the ring. */
    private static void faceRefusesWhatIsNoCorner() {
        for (int corners : new int[] {6, 7, 14}) {
            for (int n = 3; n <= 6; n++) {
                MidSkins m = withCorners(corners);
                for (int k = 0; k < n; k++) {
                    int at = k;
                    int size = n;
                    m.row(2, n);
                    Ends.refused(DUE, "face(" + n + ") with " + corners, 0, corners - 1, -101, c -> {
                        m.put(2, at, c);
                        return m.face(size);
                    });
                }
                DUE.is("face: none was made", m.count(1), 0);
                m.put(2, 0, corners - 1);
                m.put(2, n - 1, corners - 1);
                DUE.is("face: of the last corner", m.face(n), 1);
                DUE.is("face: no cause", m.cause(), 0);
            }
        }
        MidSkins none = new MidSkins();
        none.row(0, 6);
        for (int n = 3; n <= 6; n++) DUE.is("face: there is no corner", none.face(n), -101);
    }

    /** "UNKNOWN, too (behind these)" */
    private static void unknownIsBehindTheCauses() {
        MidSkins m = withCorners(3);
        Nets.hand(m, 2, 99, -1);
        DUE.is("face: index ahead of unknown", m.face(3), -12);
        Nets.hand(m, 2, 99, -1, 99);
        DUE.is("face: unknown", m.face(3), -101);
        m.lose();
        DUE.is("face: null ahead of unknown", m.face(3), -11);
    }

    /** "PLATES (14 at most)", "FULL" */
    private static void fourteenAtMost() {
        for (int n = 3; n <= 6; n++) {
            MidSkins m = withCorners(6);
            Nets.hand(m, 0, 0, 1, 2, 3, 4, 5);
            for (int f = 1; f <= 14; f++) DUE.is("face", m.face(n), f);
            for (int size = 3; size <= 6; size++) DUE.is("face: full", m.face(size), -104);
            DUE.is("face: how many", m.count(1), 14);
            DUE.is("face: no cause", m.cause(), 0);
            DUE.is("plate 13 is one", m.turn(13), 1);
            DUE.is("plate 14 is none", m.turn(14), -101);
            m.undo();
            DUE.is("face: room again", m.face(9 - n), 14);
            DUE.is("face: full again", m.face(n), -104);
        }
    }

    private static void fullIsToldLast() {
        MidSkins m = withCorners(6);
        Nets.hand(m, 0, 0, 1, 2, 3, 4, 5);
        for (int f = 0; f < 14; f++) m.face(6);
        m.put(0, 5, 6);
        DUE.is("face: unknown ahead of full", m.face(6), -101);
        DUE.is("face: the sixth is not looked at", m.face(5), -104);
        m.row(0, 2);
        DUE.is("face: index ahead of full", m.face(3), -12);
        m.lose();
        DUE.is("face: null ahead of full", m.face(3), -11);
        DUE.is("face: outside ahead of full", m.face(2), -102);
        DUE.is("face: how many", m.count(1), 14);
    }

    /** A plate keeps its ring when the row is changed or lost. */
    private static void faceIsNotTheRow() {
        MidSkins m = withCorners(9);
        Nets.hand(m, 1, 0, 1, 2, 3);
        m.face(4);
        for (int i = 0; i < 4; i++) m.put(1, i, 5 + i);
        platesAre("face behind put", m, 4, 0, 1, 2, 3);
        m.face(3);
        m.turn(1);
        DUE.is("face: the row behind turn", m.face(3), 3);
        m.row(1, 4);
        m.lose();
        platesAre("face behind lose", m, 4, 0, 1, 2, 3, 3, 5, 7, 6, 3, 5, 6, 7);
    }

    /** A corner twice is a fault of the base, but no refusal. */
    private static void faceTakesACornerTwice() {
        MidSkins m = withCorners(2);
        DUE.is("face of one corner", Nets.face(m, 1, 1, 1), 1);
        DUE.is("face: fault", m.fault(0), 2);
        DUE.is("face: its place", m.fault(1), 0);
    }

    /** "The latest PLATE is gone: how many are left." */
    private static void undoTakesTheLatest() {
        MidSkins m = withCorners(6);
        Nets.face(m, 0, 1, 2);
        Nets.face(m, 5, 4, 3, 2, 1, 0);
        Nets.face(m, 1, 2, 3, 4);
        DUE.is("undo", m.undo(), 2);
        platesAre("undo: the latest", m, 3, 0, 1, 2, 6, 5, 4, 3, 2, 1, 0);
        DUE.is("undo", m.undo(), 1);
        DUE.is("face behind undo", Nets.face(m, 2, 3, 4), 2);
        platesAre("face behind undo", m, 3, 0, 1, 2, 3, 2, 3, 4);
        MidSkins t = Nets.tetrahedron();
        DUE.is("undo: closed before", t.fault(0), 0);
        DUE.is("undo", t.undo(), 3);
        DUE.is("undo: open behind", t.fault(0), 4);
        DUE.is("undo: put back", Nets.face(t, 3, 1, 2), 4);
        DUE.is("undo: closed again", t.fault(0), 0);
        DUE.isText("undo: the ring anew", Nets.ringOf(t, 0, 3), "3 1 2");
        DUE.isText("undo: the ring anew, a level on", Nets.ringOf(t, 1, 3), "3 1 5");
    }

    /** "STATE: there is none." */
    private static void undoOfNoneIsState() {
        DUE.is("undo: new", new MidSkins().undo(), -103);
        MidSkins m = Nets.tetrahedron();
        for (int left = 3; left >= 0; left--) DUE.is("undo", m.undo(), left);
        for (int more = 0; more < 3; more++) DUE.is("undo: none left", m.undo(), -103);
        DUE.is("undo: corners stay", m.count(0), 4);
        DUE.is("undo: plates", m.count(1), 0);
        DUE.is("undo: no plate", m.fault(0), 1);
        DUE.is("undo: no cause", m.cause(), 0);
        DUE.is("face behind it", Nets.face(m, 0, 1, 2), 1);
    }

    /** "turned the other way round (its first CORNER stays): 1", for rings of 3 to 6. */
    private static void turnKeepsTheFirst() {
        MidSkins m = withCorners(6);
        Nets.face(m, 2, 1, 0);
        Nets.face(m, 0, 1, 2, 3);
        Nets.face(m, 4, 0, 1, 2, 3);
        Nets.face(m, 0, 1, 2, 3, 4, 5);
        for (int f = 0; f < 4; f++) DUE.is("turn", m.turn(f), 1);
        platesAre("turn", m, 3, 2, 0, 1, 4, 0, 3, 2, 1, 5, 4, 3, 2, 1, 0, 6, 0, 5, 4, 3, 2, 1);
        MidSkins t = Nets.tetrahedron();
        long room = t.room(0);
        Nets.turnAll(t);
        DUE.is("turn: inside out", t.room(0), -room);
        DUE.isText("turn: first stays", Nets.ringOf(t, 0, 1), "0 3 1");
        MidSkins c = Nets.cube(1);
        Nets.turnAll(c);
        DUE.isText("turn: of four", Nets.ringOf(c, 0, 0), "0 1 3 2");
    }

    private static void turnTwiceIsAsBefore() {
        MidSkins m = Nets.net(Nets.PRISM);
        long before = m.digest();
        for (int f = 0; f < 8; f++) {
            m.turn(f);
            DUE.is("turn: a fault", m.fault(0), 3);
            DUE.holds("turn: another digest", m.digest() != before);
            m.turn(f);
            DUE.is("turn: none again", m.fault(0), 0);
            DUE.is("turn: the digest again", m.digest(), before);
        }
    }

    private static void turnOfOnePlateAlone() {
        for (int f = 0; f < 3; f++) {
            MidSkins m = withCorners(5);
            int[] rings = {3, 0, 1, 2, 3, 1, 2, 3, 3, 2, 3, 4};
            for (int k = 0; k < 3; k++) Nets.face(m, k, k + 1, k + 2);
            m.turn(f);
            int kept = rings[4 * f + 2];
            rings[4 * f + 2] = rings[4 * f + 3];
            rings[4 * f + 3] = kept;
            platesAre("turn " + f, m, rings);
        }
    }

    /** "UNKNOWN" */
    private static void turnRefuses() {
        DUE.is("turn: no plate yet", new MidSkins().turn(0), -101);
        MidSkins m = Nets.tetrahedron();
        long before = m.digest();
        Ends.refused(DUE, "turn", 0, 3, -101, f -> m.turn(f));
        DUE.is("turn: refused changes nothing", m.digest(), before);
        Ends.are(DUE, "turn", 0, 3, -101, f -> m.turn(f));
        m.undo();
        DUE.is("turn: one that is gone", m.turn(3), -101);
        DUE.is("turn: the last", m.turn(2), 1);
    }

    /** "No CORNERS, PLATES, MOVES: how many CORNERS there were." */
    private static void clearAnswersHowManyCorners() {
        DUE.is("clear: nothing", new MidSkins().clear(), 0);
        MidSkins m = Nets.octahedron(5);
        m.move(1, 0, 1, 2, 3);
        m.move(3, 900, 1, 2, 3);
        m.room(3);
        DUE.is("clear", m.clear(), 6);
        DUE.is("clear again", m.clear(), 0);
        for (int what = 0; what <= 2; what++) DUE.is("clear: count", m.count(what), 0);
        DUE.is("clear: moves are gone", m.moved(1, 0, 0), 0);
        DUE.is("clear: moves are gone", m.moved(3, 900, 2), 0);
        DUE.is("clear: fault", m.fault(0), 1);
        DUE.is("clear: its place", m.fault(1), -1);
        for (int level = 0; level <= 3; level++) DUE.is("clear: level", m.many(level, 0), -103);
        DUE.is("clear: digest", m.digest(), Digest.of(1));
        DUE.is("clear: no corner", m.place(0, 0, 0), -101);
        DUE.is("clear: no plate", m.turn(0), -101);
        DUE.is("clear: none to undo", m.undo(), -103);
        DUE.is("clear: corners begin anew", m.corner(), 0);
        Nets.corners(m, 3);
        Nets.faces(m, Nets.TETRAHEDRON);
        DUE.is("clear: no fault anew", m.fault(0), 0);
        DUE.is("clear: no move is left at level 1", m.at(1, 0, 0), m.at(0, 0, 0) + m.at(0, 1, 0));
        MidSkins full = withCorners(14);
        DUE.is("clear: of the most", full.clear(), 14);
    }

    private static void clearLeavesRowAndCause() {
        MidSkins m = Nets.tetrahedron();
        m.put(1, 0, 0);
        DUE.is("clear", m.clear(), 4);
        DUE.is("clear: the row stays", m.count(3), 3);
        DUE.is("clear: the cause stays", m.cause(), 4);
        DUE.is("clear: the row's lane", m.put(0, 2, 9), 1);
        DUE.is("clear: the row's numbers", m.corner(), 0);
        DUE.is("clear: x", m.place(0, 0, 0), 1);
        DUE.is("clear: y", m.place(0, 1, 0), 2);
        DUE.is("clear: z", m.place(0, 2, 0), 9);
        m.lose();
        m.clear();
        DUE.is("clear: a lost row stays lost", m.count(3), -1);
    }
}
