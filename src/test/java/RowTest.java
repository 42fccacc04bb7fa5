/** Promises 1 to 4: a new object, row, put, lose; with cause() and count(3), by which they are seen. */
public final class RowTest {
    private static final Due DUE = new Due();
    private static final int LOST = MidSkins.NONE;

    public static void main(String[] args) {
        newHasNothing();
        newRowIsLost();
        newHasNoLevel();
        rowAnswersHowMany();
        rowRefusesLane();
        rowRefusesAboveEight();
        rowBelowZeroIsSize();
        rowRefusedStaysAsItWas();
        rowIsZeroAtFirst();
        rowIsOfItsLane();
        putTakesEachPlace();
        putChangesOneNumber();
        putRefusesLane();
        putIntoLostIsNull();
        putOfOtherLaneIsCast();
        putBeyondIsIndex();
        putRefusedChangesNoNumber();
        putCastsToByte();
        putCastsToShort();
        putCastsToIntAsItIs();
        loseAnswersOne();
        loseTwiceIsNull();
        lostRowComesBackNew();
        DUE.end();
    }

    /** With 14 corners at 0, so that a plate can be made of a row of numbers from 0 to 13. */
    private static MidSkins withCorners() {
        MidSkins m = new MidSkins();
        m.row(2, 3);
        for (int c = 0; c < 14; c++) m.corner();
        return m;
    }

    /** Sees the first six numbers of the row by a plate that is made of them. */
    private static void rowIs(String what, MidSkins m, int... six) {
        DUE.is(what + ": face", m.face(6), 1);
        long h = Digest.on(Digest.of(new int[3 * 14]), 6);
        DUE.is(what + ": numbers", m.digest(), Digest.on(Digest.on(h, six), m.fault(0)));
        m.undo();
    }

    /** "No CORNERS, PLATES, MOVES" */
    private static void newHasNothing() {
        MidSkins m = new MidSkins();
        for (int what = 0; what <= 2; what++) DUE.is("new: count(" + what + ")", m.count(what), 0);
        DUE.is("new: cause", m.cause(), 0);
        DUE.is("new: fault", m.fault(0), 1);
        DUE.is("new: its place", m.fault(1), MidSkins.NONE);
        DUE.is("new: digest", m.digest(), Digest.of(1));
        DUE.is("new: no corner", m.place(0, 0, 0), -101);
        DUE.is("new: no plate", m.turn(0), -101);
        DUE.is("new: none to undo", m.undo(), -103);
        DUE.is("new: no move", m.moved(1, 0, 0), 0);
        DUE.is("new: clear", m.clear(), 0);
    }

    /** "THE ROW is LOST" */
    private static void newRowIsLost() {
        DUE.is("new: count(3)", new MidSkins().count(3), LOST);
        DUE.is("new: lose", new MidSkins().lose(), -11);
        for (int lane = 0; lane <= 2; lane++) DUE.is("new: put", new MidSkins().put(lane, 0, 0), -11);
        DUE.is("new: corner", new MidSkins().corner(), -11);
        DUE.is("new: face", new MidSkins().face(3), -11);
    }

    private static void newHasNoLevel() {
        MidSkins m = new MidSkins();
        for (int level = 0; level <= 3; level++) DUE.is("new: level " + level, m.many(level, 0), -103);
    }

    /** "THE ROW becomes a new one of a LANE with n numbers: n"; 0 and 8 are the ends. */
    private static void rowAnswersHowMany() {
        MidSkins m = new MidSkins();
        for (int lane = 0; lane <= 2; lane++) {
            for (int n = 0; n <= 8; n++) {
                DUE.is("row(" + lane + ", " + n + ")", m.row(lane, n), n);
                DUE.is("row: numbers", m.count(3), n);
            }
        }
        DUE.is("row: no cause", m.cause(), 0);
    }

    /** "OUTSIDE: LANE" */
    private static void rowRefusesLane() {
        MidSkins m = new MidSkins();
        for (int n : new int[] {0, 3, 8, 9, -1}) {
            Ends.refused(DUE, "row: n " + n + ", lane", 0, 2, -102, lane -> m.row(lane, n));
        }
        DUE.is("row: lane ahead of SIZE, so no cause", m.cause(), 0);
        DUE.is("row: none was made", m.count(3), LOST);
    }

    /** "OUTSIDE: n is above 8" */
    private static void rowRefusesAboveEight() {
        MidSkins m = new MidSkins();
        for (int lane = 0; lane <= 2; lane++) {
            for (int n : new int[] {9, 10, Integer.MAX_VALUE}) DUE.is("row: n " + n, m.row(lane, n), -102);
        }
        DUE.is("row: no cause", m.cause(), 0);
        DUE.is("row: none was made", m.count(3), LOST);
    }

    /** "SIZE (below 0)" */
    private static void rowBelowZeroIsSize() {
        for (int lane = 0; lane <= 2; lane++) {
            for (int n : new int[] {-1, -2, Integer.MIN_VALUE}) {
                MidSkins m = new MidSkins();
                DUE.is("row: n " + n, m.row(lane, n), -13);
                DUE.is("row: cause", m.cause(), 3);
                DUE.is("row: none was made", m.count(3), LOST);
            }
        }
    }

    private static void rowRefusedStaysAsItWas() {
        MidSkins m = withCorners();
        Nets.hand(m, 1, 1, 2, 3, 4, 5, 6, 7);
        for (int lane = 0; lane <= 2; lane++) {
            m.row(lane, 9);
            m.row(lane, -1);
            m.row(lane + 3, 5);
            m.row(-1 - lane, 0);
        }
        DUE.is("refused row: numbers", m.count(3), 7);
        rowIs("refused row", m, 1, 2, 3, 4, 5, 6);
        DUE.is("refused row: lane", m.put(1, 6, 1), 1);
    }

    /** "0 at first", whatever stood in the row before. */
    private static void rowIsZeroAtFirst() {
        for (int lane = 0; lane <= 2; lane++) {
            for (int then = 0; then <= 2; then++) {
                MidSkins m = withCorners();
                Nets.hand(m, lane, 9, 8, 7, 6, 5, 4, 3, 2);
                m.row(then, 6);
                rowIs("row from " + lane + " to " + then, m, 0, 0, 0, 0, 0, 0);
                Nets.hand(m, lane, 9, 8);
                m.row(then, 8);
                rowIs("longer row from " + lane + " to " + then, m, 0, 0, 0, 0, 0, 0);
                m.row(then, 2);
                m.row(then, 6);
                rowIs("row behind a shorter", m, 0, 0, 0, 0, 0, 0);
            }
        }
    }

    private static void rowIsOfItsLane() {
        MidSkins m = new MidSkins();
        for (int old = 0; old <= 2; old++) {
            for (int lane = 0; lane <= 2; lane++) {
                m.row(old, 4);
                m.row(lane, 4);
                for (int asked = 0; asked <= 2; asked++) {
                    DUE.is("row of " + lane + " as " + asked, m.put(asked, 0, 1), asked == lane ? 1 : -14);
                }
            }
        }
    }

    /** "Number i of THE ROW becomes v: 1", for each i of each length. */
    private static void putTakesEachPlace() {
        for (int lane = 0; lane <= 2; lane++) {
            MidSkins m = new MidSkins();
            for (int n = 1; n <= 8; n++) {
                m.row(lane, n);
                for (int i = 0; i < n; i++) DUE.is("put " + i + " of " + n, m.put(lane, i, 1), 1);
            }
            DUE.is("put: no cause", m.cause(), 0);
            DUE.is("put: as many numbers", m.count(3), 8);
        }
    }

    private static void putChangesOneNumber() {
        for (int lane = 0; lane <= 2; lane++) {
            for (int i = 0; i < 6; i++) {
                MidSkins m = withCorners();
                int[] six = {1, 2, 3, 4, 5, 6};
                Nets.hand(m, lane, six);
                m.put(lane, i, 13);
                six[i] = 13;
                rowIs("put " + i, m, six);
                m.put(lane, i, 0);
                six[i] = 0;
                rowIs("put " + i + " again", m, six);
            }
        }
    }

    /** "OUTSIDE: LANE", ahead of NULL and INDEX. */
    private static void putRefusesLane() {
        MidSkins lost = new MidSkins();
        Ends.refused(DUE, "put into lost: lane", 0, 2, -102, lane -> lost.put(lane, 0, 1));
        MidSkins m = new MidSkins();
        m.row(1, 3);
        for (int i : new int[] {0, 2, 3, -1}) {
            Ends.refused(DUE, "put at " + i + ": lane", 0, 2, -102, lane -> m.put(lane, i, 1));
        }
        DUE.is("put: refusals are no cause", m.cause() + lost.cause(), 0);
    }

    /** "NULL", ahead of CAST and INDEX. */
    private static void putIntoLostIsNull() {
        for (int made = 0; made <= 2; made++) {
            MidSkins m = new MidSkins();
            m.row(made, 3);
            m.lose();
            for (int lane = 0; lane <= 2; lane++) {
                for (int i : new int[] {0, 3, -1}) DUE.is("put: null", m.put(lane, i, 1), -11);
            }
            DUE.is("put: cause", m.cause(), 1);
            DUE.is("put: it stays lost", m.count(3), LOST);
        }
    }

    /** "CAST (another LANE)", ahead of INDEX. */
    private static void putOfOtherLaneIsCast() {
        for (int made = 0; made <= 2; made++) {
            for (int other = 1; other <= 2; other++) {
                int lane = (made + other) % 3;
                MidSkins m = new MidSkins();
                m.row(made, 3);
                for (int i : new int[] {0, 2, 3, -1}) DUE.is("put: cast", m.put(lane, i, 1), -14);
                DUE.is("put: cause", m.cause(), 4);
                m.row(made, 0);
                DUE.is("put: cast, of a row of none", m.put(lane, 0, 1), -14);
            }
        }
    }

    /** "INDEX" below 0 and from the length on. */
    private static void putBeyondIsIndex() {
        for (int lane = 0; lane <= 2; lane++) {
            for (int n = 0; n <= 8; n++) {
                MidSkins m = new MidSkins();
                m.row(lane, n);
                int of = lane;
                Ends.refused(DUE, "put into " + n + ": i", 0, n - 1, -12, i -> m.put(of, i, 1));
                DUE.is("put: cause", m.cause(), 2);
            }
        }
    }

    private static void putRefusedChangesNoNumber() {
        MidSkins m = withCorners();
        Nets.hand(m, 0, 1, 2, 3, 4, 5, 6);
        m.put(0, -1, 9);
        m.put(0, 6, 9);
        for (int i = 0; i < 6; i++) {
            m.put(1, i, 9);
            m.put(2, i, 9);
            m.put(3, i, 9);
        }
        rowIs("refused put", m, 1, 2, 3, 4, 5, 6);
        DUE.is("refused put: numbers", m.count(3), 6);
        DUE.is("refused put: lane", m.put(0, 0, 1), 1);
    }

    /** Sees the number by each axis of a corner; OUTSIDE: it is none that a corner takes. */
    private static void castIs(int lane, int v, int want) {
        for (int axis = 0; axis < 3; axis++) {
            MidSkins m = new MidSkins();
            m.row(lane, 3);
            DUE.is("put(" + lane + ", " + axis + ", " + v + ")", m.put(lane, axis, v), 1);
            int got = m.corner() == 0 ? m.place(0, axis, 0) : MidSkins.OUTSIDE;
            DUE.is(v + " cast to lane " + lane, got, want);
        }
    }

    /** "cast to its LANE": 0 byte. */
    private static void putCastsToByte() {
        int[][] casts = {{0, 0}, {1, 1}, {-1, -1}, {127, 127}, {128, -128}, {-128, -128}, {-129, 127}, {255, -1},
            {256, 0}, {-255, 1}, {-256, 0}, {1000, -24}, {65536, 0}, {32767, -1},
            {Integer.MAX_VALUE, -1}, {Integer.MIN_VALUE, 0}};
        for (int[] cast : casts) castIs(0, cast[0], cast[1]);
    }

    /** "cast to its LANE": 1 short. */
    private static void putCastsToShort() {
        int[][] casts = {{128, 128}, {-129, -129}, {256, 256}, {1000, 1000}, {-1000, -1000},
            {32767, MidSkins.OUTSIDE}, {32768, MidSkins.OUTSIDE}, {-32768, MidSkins.OUTSIDE}, {-32769, MidSkins.OUTSIDE},
            {65535, -1}, {65536, 0}, {66536, 1000}, {66537, MidSkins.OUTSIDE}, {64536, -1000},
            {64535, MidSkins.OUTSIDE}, {-65536, 0}, {-64536, 1000}, {-66536, -1000},
            {Integer.MAX_VALUE, -1}, {Integer.MIN_VALUE, 0}};
        for (int[] cast : casts) castIs(1, cast[0], cast[1]);
    }

    /** "cast to its LANE": 2 int. */
    private static void putCastsToIntAsItIs() {
        int[][] casts = {{128, 128}, {256, 256}, {1000, 1000}, {-1000, -1000}, {65536, MidSkins.OUTSIDE},
            {65543, MidSkins.OUTSIDE}, {1 << 24, MidSkins.OUTSIDE},
            {Integer.MAX_VALUE, MidSkins.OUTSIDE}, {Integer.MIN_VALUE, MidSkins.OUTSIDE}};
        for (int[] cast : casts) castIs(2, cast[0], cast[1]);
    }

    /** "THE ROW is LOST: 1", of any lane and length. */
    private static void loseAnswersOne() {
        MidSkins m = new MidSkins();
        for (int lane = 0; lane <= 2; lane++) {
            for (int n : new int[] {0, 1, 8}) {
                m.row(lane, n);
                DUE.is("lose", m.lose(), 1);
                DUE.is("lose: lost", m.count(3), LOST);
            }
        }
        DUE.is("lose: no cause", m.cause(), 0);
    }

    /** "NULL" */
    private static void loseTwiceIsNull() {
        MidSkins m = new MidSkins();
        DUE.is("lose: of a new object", m.lose(), -11);
        DUE.is("lose: cause", m.cause(), 1);
        m.row(0, 4);
        m.lose();
        m.row(0, -1);
        DUE.is("lose: twice", m.lose(), -11);
        DUE.is("lose: cause anew", m.cause(), 1);
        DUE.is("lose: put", m.put(0, 0, 1), -11);
        DUE.is("lose: corner", m.corner(), -11);
        DUE.is("lose: face", m.face(3), -11);
        DUE.is("lose: it stays lost", m.count(3), LOST);
    }

    private static void lostRowComesBackNew() {
        for (int lane = 0; lane <= 2; lane++) {
            MidSkins m = withCorners();
            Nets.hand(m, lane, 9, 8, 7, 6, 5, 4);
            m.lose();
            DUE.is("row behind lose", m.row(lane, 6), 6);
            rowIs("row behind lose", m, 0, 0, 0, 0, 0, 0);
        }
    }
}
