/** Promises 5 and 6: corner and place. */
public final class CornerTest {
    private static final Due DUE = new Due();

    public static void main(String[] args) {
        cornerIsOfTheFirstThree();
        cornersAreNumberedAsTheyCome();
        cornerOfLostIsNull();
        cornerOfShorterIsIndex();
        cornerTakesUpToThousand();
        cornerRefusesBeyondThousand();
        outsideIsBehindTheCauses();
        fourteenAtMost();
        fullIsToldLast();
        roomAgainBehindClear();
        cornerIsNotTheRow();
        placeAnswersWhatItWas();
        placeChangesOneNumber();
        placeRefusesCorner();
        placeRefusesAxis();
        placeRefusesBeyondThousand();
        placeTellsUnknownFirst();
        placeIsSeenAtEachLevel();
        placeWorksInSpiteOfAFault();
        DUE.end();
    }

    private static void numbersAre(String what, MidSkins m, int c, int... want) {
        for (int axis = 0; axis < 3; axis++) {
            int got = m.place(c, axis, 0);
            DUE.is(what + ": axis " + axis, got, want[axis]);
            m.place(c, axis, got);
        }
    }

    /** "A CORNER by the first three numbers of THE ROW: its number." */
    private static void cornerIsOfTheFirstThree() {
        for (int lane = 0; lane <= 2; lane++) {
            for (int n = 3; n <= 8; n++) {
                MidSkins m = new MidSkins();
                m.row(lane, n);
                for (int i = 0; i < n; i++) m.put(lane, i, i < 3 ? 4 + i : 1001);
                DUE.is("corner of a row of " + n, m.corner(), 0);
                numbersAre("corner of a row of " + n, m, 0, 4, 5, 6);
                DUE.is("corner: the row stays", m.count(3), n);
            }
        }
    }

    /** "numbered as they come" */
    private static void cornersAreNumberedAsTheyCome() {
        MidSkins m = new MidSkins();
        for (int c = 0; c < 14; c++) DUE.is("corner", Nets.corner(m, c, -c, 7 * c), c);
        for (int c = 0; c < 14; c++) numbersAre("corner " + c, m, c, c, -c, 7 * c);
        DUE.is("corner: count", m.count(0), 14);
        DUE.is("corner: no cause", m.cause(), 0);
    }

    /** "NULL" */
    private static void cornerOfLostIsNull() {
        MidSkins m = new MidSkins();
        DUE.is("corner: null", m.corner(), -11);
        DUE.is("corner: cause", m.cause(), 1);
        Nets.hand(m, 2, 1, 2, 3);
        m.lose();
        m.row(0, -1);
        DUE.is("corner: null behind lose", m.corner(), -11);
        DUE.is("corner: cause anew", m.cause(), 1);
        DUE.is("corner: none was made", m.count(0), 0);
    }

    /** "INDEX: it is shorter" */
    private static void cornerOfShorterIsIndex() {
        for (int lane = 0; lane <= 2; lane++) {
            for (int n = 0; n <= 2; n++) {
                MidSkins m = new MidSkins();
                m.row(lane, n);
                DUE.is("corner of a row of " + n, m.corner(), -12);
                DUE.is("corner: cause", m.cause(), 2);
                DUE.is("corner: none was made", m.count(0), 0);
            }
        }
    }

    /** "three numbers x, y, z (-1000 to 1000)": the last that are taken. */
    private static void cornerTakesUpToThousand() {
        for (int axis = 0; axis < 3; axis++) {
            for (int v : new int[] {-1000, -999, 999, 1000}) {
                for (int lane = 1; lane <= 2; lane++) {
                    MidSkins m = new MidSkins();
                    m.row(lane, 3);
                    m.put(lane, axis, v);
                    DUE.is("corner with " + v, m.corner(), 0);
                    DUE.is("corner: axis " + axis, m.place(0, axis, 0), v);
                }
            }
        }
    }

    /** "OUTSIDE: a number": the first that are refused. */
    private static void cornerRefusesBeyondThousand() {
        for (int axis = 0; axis < 3; axis++) {
            for (int v : Ends.beyond(-1000, 1000)) {
                MidSkins m = new MidSkins();
                Nets.hand(m, 2, 1, 2, 3, 4);
                m.put(2, axis, v);
                DUE.is("corner with " + v + " at " + axis, m.corner(), -102);
                DUE.is("corner: none was made", m.count(0), 0);
                DUE.is("corner: no cause", m.cause(), 0);
            }
        }
    }

    /** "OUTSIDE, too (behind these)" */
    private static void outsideIsBehindTheCauses() {
        MidSkins m = new MidSkins();
        for (int n = 1; n <= 2; n++) {
            m.row(2, n);
            m.put(2, n - 1, 5000);
            DUE.is("corner: index ahead of outside", m.corner(), -12);
        }
        Nets.hand(m, 2, 5000, 5000, 5000);
        m.lose();
        DUE.is("corner: null ahead of outside", m.corner(), -11);
    }

    /** "CORNERS (14 at most)", "FULL" */
    private static void fourteenAtMost() {
        MidSkins m = new MidSkins();
        m.row(2, 3);
        for (int c = 0; c < 14; c++) DUE.is("corner", m.corner(), c);
        for (int more = 0; more < 3; more++) DUE.is("corner: full", m.corner(), -104);
        DUE.is("corner: how many", m.count(0), 14);
        DUE.is("corner: no cause", m.cause(), 0);
        DUE.is("corner 13 is one", m.place(13, 2, 1), 0);
        DUE.is("corner 14 is none", m.place(14, 2, 1), -101);
    }

    private static void fullIsToldLast() {
        MidSkins m = new MidSkins();
        m.row(2, 3);
        for (int c = 0; c < 14; c++) m.corner();
        m.put(2, 1, 1001);
        DUE.is("corner: outside ahead of full", m.corner(), -102);
        m.row(2, 2);
        DUE.is("corner: index ahead of full", m.corner(), -12);
        m.lose();
        DUE.is("corner: null ahead of full", m.corner(), -11);
        DUE.is("corner: how many", m.count(0), 14);
    }

    private static void roomAgainBehindClear() {
        MidSkins m = new MidSkins();
        m.row(2, 3);
        for (int c = 0; c < 15; c++) m.corner();
        DUE.is("corner: cleared", m.clear(), 14);
        for (int c = 0; c < 14; c++) DUE.is("corner: numbered anew", m.corner(), c);
        DUE.is("corner: full again", m.corner(), -104);
    }

    /** A corner keeps its numbers when the row is changed or lost. */
    private static void cornerIsNotTheRow() {
        MidSkins m = new MidSkins();
        Nets.hand(m, 2, 1, 2, 3);
        m.corner();
        m.put(2, 0, 50);
        m.put(2, 1, 60);
        m.put(2, 2, 70);
        numbersAre("corner behind put", m, 0, 1, 2, 3);
        DUE.is("corner: of the row as it is", m.corner(), 1);
        m.place(1, 0, 999);
        DUE.is("corner: the row behind place", m.corner(), 2);
        m.row(1, 3);
        m.lose();
        numbersAre("corner behind lose", m, 0, 1, 2, 3);
        numbersAre("corner of the row as it was", m, 2, 50, 60, 70);
    }

    /** "A number (axis 0 x, 1 y, 2 z) of a CORNER becomes v: what it was." */
    private static void placeAnswersWhatItWas() {
        MidSkins m = new MidSkins();
        Nets.corners(m, 2);
        DUE.is("place", m.place(1, 0, 1000), 10);
        DUE.is("place again", m.place(1, 0, -1000), 1000);
        DUE.is("place once more", m.place(1, 0, -1000), -1000);
        DUE.is("place the same", m.place(1, 0, 0), -1000);
        DUE.is("place y", m.place(1, 1, 5), 1);
        DUE.is("place z", m.place(1, 2, 5), -1);
        DUE.is("place: no cause", m.cause(), 0);
    }

    private static void placeChangesOneNumber() {
        for (int c = 0; c < 3; c++) {
            for (int axis = 0; axis < 3; axis++) {
                MidSkins m = new MidSkins();
                int[] numbers = {1, 2, 3, 4, 5, 6, 7, 8, 9};
                for (int k = 0; k < 3; k++) Nets.corner(m, 3 * k + 1, 3 * k + 2, 3 * k + 3);
                m.place(c, axis, -77);
                numbers[3 * c + axis] = -77;
                DUE.is("place " + c + ", " + axis, m.digest(), Digest.on(Digest.of(numbers), 1));
            }
        }
    }

    /** "UNKNOWN: c" */
    private static void placeRefusesCorner() {
        DUE.is("place: no corner yet", new MidSkins().place(0, 0, 0), -101);
        for (int n : new int[] {1, 2, 14}) {
            MidSkins m = new MidSkins();
            Nets.corners(m, n);
            Ends.are(DUE, "place of " + n + ": c", 0, n - 1, -101, c -> m.place(c, 0, 1));
        }
    }

    /** "UNKNOWN: axis" */
    private static void placeRefusesAxis() {
        MidSkins m = new MidSkins();
        Nets.corners(m, 3);
        for (int c = 0; c < 3; c++) {
            int of = c;
            Ends.are(DUE, "place " + c + ": axis", 0, 2, -101, axis -> m.place(of, axis, 7));
        }
        DUE.is("place: the last axis", m.place(0, 2, 0), 7);
        DUE.is("place: the next corner's x", m.place(1, 0, 0), 7);
    }

    /** "OUTSIDE", -1001 and 1001 being the first. */
    private static void placeRefusesBeyondThousand() {
        MidSkins m = new MidSkins();
        Nets.corners(m, 2);
        for (int axis = 0; axis < 3; axis++) {
            int of = axis;
            Ends.are(DUE, "place: axis " + axis + ", v", -1000, 1000, -102, v -> m.place(1, of, v));
            for (int v : Ends.beyond(-1000, 1000)) m.place(1, axis, v);
            DUE.is("place: what was refused is not there", m.place(1, axis, 0), 1000);
        }
    }

    /** "UNKNOWN: c, axis; OUTSIDE" */
    private static void placeTellsUnknownFirst() {
        MidSkins m = new MidSkins();
        Nets.corners(m, 2);
        for (int v : Ends.beyond(-1000, 1000)) {
            DUE.is("place: c ahead of v", m.place(2, 0, v), -101);
            DUE.is("place: axis ahead of v", m.place(0, 3, v), -101);
            DUE.is("place: axis -1 ahead of v", m.place(0, -1, v), -101);
        }
    }

    private static void placeIsSeenAtEachLevel() {
        MidSkins m = Nets.tetrahedron();
        for (int level = 0; level <= 3; level++) DUE.is("box before", m.box(level, 1, 1), new int[] {100, 100, 200, 400}[level]);
        DUE.is("place", m.place(2, 1, 1000), 100);
        for (int level = 0; level <= 3; level++) {
            DUE.is("box behind, level " + level, m.box(level, 1, 1), new int[] {1000, 1000, 2000, 4000}[level]);
        }
        DUE.is("place: refused", m.place(2, 1, 1001), -102);
        for (int level = 0; level <= 3; level++) {
            DUE.is("box behind a refusal", m.box(level, 1, 1), new int[] {1000, 1000, 2000, 4000}[level]);
        }
    }

    private static void placeWorksInSpiteOfAFault() {
        MidSkins m = Nets.faulty();
        DUE.is("place with a fault", m.place(3, 2, -5), 100);
        Nets.face(m, 1, 2, 3);
        DUE.is("place: seen without it", m.at(0, 3, 2), -5);
        DUE.is("place: seen a level on", m.at(1, 4, 2), -5);
    }
}
