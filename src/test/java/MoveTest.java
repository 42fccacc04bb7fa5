/** Promises 22 and 23 and MOVES: move and moved. */
public final class MoveTest {
    private static final Due DUE = new Due();

    public static void main(String[] args) {
        moveAnswersHowMany();
        moveIsToldAnew();
        allZeroIsNone();
        anyNumberButZeroIsAMove();
        sameCornerOfOtherLevelsIsAnother();
        moveRefusesLevel();
        moveRefusesCorner();
        moveRefusesNumbers();
        moveTellsUnknownFirst();
        fortyAtMost();
        fullIsToldLast();
        fullTakesWhatIsNoNewMove();
        roomAgain();
        movedTellsEachNumber();
        movedIsZeroWithoutAMove();
        movedIsZeroForWhatNamesNothing();
        moveIsAdded();
        moveIsCarriedUp();
        moveDoesNothingBelowItsLevel();
        moveStaysWhenTheBaseIsChanged();
        moveOfNoCornerDoesNothing();
        moveOfACornerThatComes();
        moveWorksInSpiteOfAFault();
        DUE.end();
    }

    /** "MOVE of a CORNER (0 to 1000) of a LEVEL (1 to 3) becomes x, y, z: how many MOVES" */
    private static void moveAnswersHowMany() {
        MidSkins m = new MidSkins();
        DUE.is("move on nothing", m.move(1, 0, 1, 2, 3), 1);
        DUE.is("another", m.move(3, 1000, 1000, -1000, 0), 2);
        DUE.is("another", m.move(2, 500, 0, 0, 1), 3);
        DUE.is("count", m.count(2), 3);
        DUE.is("no cause", m.cause(), 0);
    }

    private static void moveIsToldAnew() {
        MidSkins m = new MidSkins();
        m.move(1, 0, 1, 2, 3);
        m.move(1, 1, 4, 5, 6);
        DUE.is("the same anew", m.move(1, 0, -1, -2, -3), 2);
        for (int axis = 0; axis < 3; axis++) {
            DUE.is("moved anew", m.moved(1, 0, axis), -1 - axis);
            DUE.is("the other stays", m.moved(1, 1, axis), 4 + axis);
        }
        DUE.is("a number may become 0", m.move(1, 0, 0, 0, 9), 2);
        DUE.is("x", m.moved(1, 0, 0), 0);
        DUE.is("z", m.moved(1, 0, 2), 9);
    }

    /** "(all 0: none)" */
    private static void allZeroIsNone() {
        MidSkins m = new MidSkins();
        DUE.is("none of none", m.move(2, 1, 0, 0, 0), 0);
        for (int c = 0; c < 3; c++) m.move(2, c, 7, c, 9);
        DUE.is("none of one that is not", m.move(1, 1, 0, 0, 0), 3);
        DUE.is("none", m.move(2, 1, 0, 0, 0), 2);
        DUE.is("none again", m.move(2, 1, 0, 0, 0), 2);
        for (int axis = 0; axis < 3; axis++) DUE.is("moved, none", m.moved(2, 1, axis), 0);
        DUE.is("the first stays", m.moved(2, 0, 0), 7);
        DUE.is("the last stays", m.moved(2, 2, 1), 2);
        DUE.is("the last goes", m.move(2, 2, 0, 0, 0), 1);
        DUE.is("the first goes", m.move(2, 0, 0, 0, 0), 0);
        DUE.is("count", m.count(2), 0);
        DUE.is("digest", m.digest(), Digest.of(1));
    }

    private static void anyNumberButZeroIsAMove() {
        MidSkins m = new MidSkins();
        DUE.is("x alone", m.move(1, 1, 1, 0, 0), 1);
        DUE.is("y alone", m.move(1, 2, 0, -1, 0), 2);
        DUE.is("z alone", m.move(1, 3, 0, 0, 1), 3);
        DUE.is("1 and -1 are not none", m.move(1, 4, 1, -1, 0), 4);
        DUE.is("nor are 1, 1 and -2", m.move(1, 5, 1, 1, -2), 5);
    }

    private static void sameCornerOfOtherLevelsIsAnother() {
        MidSkins m = new MidSkins();
        for (int level = 1; level <= 3; level++) DUE.is("move", m.move(level, 7, level, 0, 0), level);
        for (int level = 1; level <= 3; level++) DUE.is("moved", m.moved(level, 7, 0), level);
        DUE.is("none at level 2", m.move(2, 7, 0, 0, 0), 2);
        DUE.is("level 1 stays", m.moved(1, 7, 0), 1);
        DUE.is("level 2 is gone", m.moved(2, 7, 0), 0);
        DUE.is("level 3 stays", m.moved(3, 7, 0), 3);
    }

    /** "UNKNOWN: LEVEL" */
    private static void moveRefusesLevel() {
        MidSkins m = new MidSkins();
        Ends.refused(DUE, "move: level", 1, 3, -101, level -> m.move(level, 5, 1, 1, 1));
        Ends.refused(DUE, "move to none: level", 1, 3, -101, level -> m.move(level, 5, 0, 0, 0));
        DUE.is("no move so far", m.count(2), 0);
        Ends.are(DUE, "move: level", 1, 3, -101, level -> m.move(level, 5, 1, 1, 1));
        DUE.is("two are taken", m.count(2), 2);
        MidSkins sound = Nets.tetrahedron();
        DUE.is("level 0 has no moves", sound.move(0, 0, 1, 1, 1), -101);
        DUE.is("level 0 stays", sound.at(0, 0, 0), 0);
    }

    /** "UNKNOWN: c", of 0 to 1000, be there such a CORNER or not. */
    private static void moveRefusesCorner() {
        for (MidSkins m : new MidSkins[] {new MidSkins(), Nets.tetrahedron(), Nets.faulty()}) {
            for (int level = 1; level <= 3; level++) {
                int of = level;
                Ends.are(DUE, "move " + level + ": c", 0, 1000, -101, c -> m.move(of, c, 1, 1, 1));
                Ends.refused(DUE, "move to none: c", 0, 1000, -101, c -> m.move(of, c, 0, 0, 0));
            }
            DUE.is("two of each level are taken", m.count(2), 6);
        }
    }

    /** "three numbers (-1000 to 1000 units of that LEVEL)", "OUTSIDE" */
    private static void moveRefusesNumbers() {
        MidSkins m = new MidSkins();
        m.move(2, 5, 1, 2, 3);
        Ends.refused(DUE, "move: x", -1000, 1000, -102, v -> m.move(2, 5, v, 0, 0));
        Ends.refused(DUE, "move: y", -1000, 1000, -102, v -> m.move(2, 5, 0, v, 0));
        Ends.refused(DUE, "move: z", -1000, 1000, -102, v -> m.move(2, 5, 0, 0, v));
        DUE.is("count", m.count(2), 1);
        for (int axis = 0; axis < 3; axis++) DUE.is("kept", m.moved(2, 5, axis), axis + 1);
        Ends.are(DUE, "move: x", -1000, 1000, -102, v -> m.move(2, 5, v, 0, 0));
        Ends.are(DUE, "move: y", -1000, 1000, -102, v -> m.move(2, 6, 0, v, 0));
        Ends.are(DUE, "move: z", -1000, 1000, -102, v -> m.move(2, 7, 0, 0, v));
        for (int axis = 0; axis < 3; axis++) DUE.is("the last taken", m.moved(2, 5 + axis, axis), 1000);
        DUE.is("no cause", m.cause(), 0);
    }

    /** "UNKNOWN: LEVEL, c; OUTSIDE" */
    private static void moveTellsUnknownFirst() {
        MidSkins m = new MidSkins();
        for (int v : Ends.beyond(-1000, 1000)) {
            DUE.is("level ahead of x", m.move(0, 5, v, 1, 1), -101);
            DUE.is("level ahead of y", m.move(4, 5, 1, v, 1), -101);
            DUE.is("c ahead of x", m.move(1, -1, v, 1, 1), -101);
            DUE.is("c ahead of z", m.move(3, 1001, 1, 1, v), -101);
        }
    }

    private static MidSkins full() {
        MidSkins m = new MidSkins();
        for (int i = 0; i < 40; i++) m.move(1 + i % 3, 1000 - 7 * i, i + 1, 0, 0);
        return m;
    }

    /** "MOVES (40 at most)", of all levels together; "FULL" */
    private static void fortyAtMost() {
        for (int levels = 1; levels <= 3; levels++) {
            MidSkins m = new MidSkins();
            for (int i = 0; i < 40; i++) DUE.is("move " + i, m.move(1 + i % levels, i, i + 1, 0, 0), i + 1);
            for (int level = 1; level <= 3; level++) DUE.is("full", m.move(level, 40, 1, 1, 1), -104);
            DUE.is("count", m.count(2), 40);
            DUE.is("no cause", m.cause(), 0);
            for (int i = 0; i < 40; i++) DUE.is("moved " + i, m.moved(1 + i % levels, i, 0), i + 1);
            for (int level = 1; level <= 3; level++) DUE.is("moved, refused", m.moved(level, 40, 0), 0);
        }
    }

    private static void fullIsToldLast() {
        MidSkins m = full();
        DUE.is("full", m.move(1, 3, 1, 1, 1), -104);
        DUE.is("outside ahead of full", m.move(1, 3, 1, 1001, 1), -102);
        DUE.is("level ahead of full", m.move(4, 3, 1, 1, 1), -101);
        DUE.is("corner ahead of full", m.move(1, 1001, 1, 1, 1), -101);
    }

    private static void fullTakesWhatIsNoNewMove() {
        MidSkins m = full();
        DUE.is("none of one that is not", m.move(1, 3, 0, 0, 0), 40);
        DUE.is("the first anew", m.move(1, 1000, 5, 0, 0), 40);
        DUE.is("the last anew", m.move(1, 1000 - 7 * 39, 6, 0, 0), 40);
        DUE.is("moved, the first", m.moved(1, 1000, 0), 5);
        DUE.is("moved, the last", m.moved(1, 1000 - 7 * 39, 0), 6);
        for (int i = 1; i < 39; i++) DUE.is("moved " + i, m.moved(1 + i % 3, 1000 - 7 * i, 0), i + 1);
    }

    private static void roomAgain() {
        MidSkins m = full();
        DUE.is("one less", m.move(2, 993, 0, 0, 0), 39);
        DUE.is("one more", m.move(1, 3, 1, 1, 1), 40);
        DUE.is("full again", m.move(2, 993, 1, 0, 0), -104);
        DUE.is("moved of none", m.moved(2, 993, 0), 0);
        m.clear();
        DUE.is("cleared", m.move(2, 993, 1, 0, 0), 1);
    }

    /** "A number of the MOVE of a CORNER of a LEVEL" */
    private static void movedTellsEachNumber() {
        MidSkins m = new MidSkins();
        m.move(3, 1000, 1000, -1000, 0);
        DUE.is("moved x", m.moved(3, 1000, 0), 1000);
        DUE.is("moved y", m.moved(3, 1000, 1), -1000);
        DUE.is("moved z", m.moved(3, 1000, 2), 0);
        m.move(1, 0, -101, -103, -1);
        DUE.is("moved x, as UNKNOWN", m.moved(1, 0, 0), -101);
        DUE.is("moved y, as STATE", m.moved(1, 0, 1), -103);
        DUE.is("moved z, as NONE", m.moved(1, 0, 2), -1);
    }

    /** "0 also: there is none." */
    private static void movedIsZeroWithoutAMove() {
        MidSkins m = new MidSkins();
        m.move(2, 500, 1, 1, 1);
        for (int axis = 0; axis < 3; axis++) {
            DUE.is("moved, the corner before", m.moved(2, 499, axis), 0);
            DUE.is("moved, the corner behind", m.moved(2, 501, axis), 0);
            DUE.is("moved, the level below", m.moved(1, 500, axis), 0);
            DUE.is("moved, the level above", m.moved(3, 500, axis), 0);
        }
    }

    private static void movedIsZeroForWhatNamesNothing() {
        MidSkins m = new MidSkins();
        for (int level = 1; level <= 3; level++) {
            for (int c : new int[] {0, 1, 999, 1000}) m.move(level, c, 1, 1, 1);
        }
        Ends.refused(DUE, "moved: level", 1, 3, 0, level -> m.moved(level, 0, 0));
        Ends.refused(DUE, "moved: corner", 0, 1000, 0, c -> m.moved(1, c, 0));
        Ends.refused(DUE, "moved: corner", 0, 1000, 0, c -> m.moved(3, c, 2));
        Ends.refused(DUE, "moved: axis", 0, 2, 0, axis -> m.moved(1, 0, axis));
        Ends.refused(DUE, "moved: axis", 0, 2, 0, axis -> m.moved(3, 1000, axis));
        DUE.is("no cause", m.cause(), 0);
    }

    /** "numbers of both ends together, and its MOVE" */
    private static void moveIsAdded() {
        for (int level = 1; level <= 3; level++) {
            int last = (6 << level - 1) - 1;
            for (int c : new int[] {0, last}) {
                MidSkins m = Nets.tetrahedron();
                int[] before = {m.at(level, c, 0), m.at(level, c, 1), m.at(level, c, 2)};
                int[] move = {1000, -1000, 7};
                m.move(level, c, 1000, -1000, 7);
                for (int axis = 0; axis < 3; axis++) DUE.is("moved", m.at(level, c, axis), before[axis] + move[axis]);
                m.move(level, c, 0, 0, -7);
                DUE.is("told anew, not added twice", m.at(level, c, 0), before[0]);
                DUE.is("told anew", m.at(level, c, 2), before[2] - 7);
                m.move(level, c, 0, 0, 0);
                for (int axis = 0; axis < 3; axis++) DUE.is("none", m.at(level, c, axis), before[axis]);
            }
        }
    }

    private static void moveIsCarriedUp() {
        MidSkins m = Nets.tetrahedron();
        int before2 = m.at(2, 2, 0);
        int before3 = m.at(3, 2, 0);
        m.move(1, 2, 10, 0, 0);
        DUE.is("level 2: edge 2 ends at corner 2", m.at(2, 2, 0), before2 + 10);
        DUE.is("level 2, another", m.at(2, 6, 0), 0);
        DUE.is("level 3: both ends hold it", m.at(3, 2, 0), before3 + movedEnds(m, 2));
        m.move(1, 2, 0, 0, 0);
        DUE.is("level 2, none", m.at(2, 2, 0), before2);
        DUE.is("level 3, none", m.at(3, 2, 0), before3);
    }

    /** How far the move by 10 of corner 2 of level 1 carries corner c of level 3. */
    private static int movedEnds(MidSkins m, int c) {
        int sum = 0;
        for (int side = 0; side < 2; side++) {
            int e = m.edge(2, c, side);
            if (m.edge(1, e, 0) == 2 || m.edge(1, e, 1) == 2) sum += 10;
        }
        return sum;
    }

    private static void moveDoesNothingBelowItsLevel() {
        MidSkins m = Nets.cube(100);
        int at0 = m.at(0, 4, 1);
        int at1 = m.at(1, 4, 1);
        int at2 = m.at(2, 4, 1);
        int at3 = m.at(3, 4, 1);
        m.move(3, 4, 0, 9, 0);
        DUE.is("level 3", m.at(3, 4, 1), at3 + 9);
        DUE.is("level 2", m.at(2, 4, 1), at2);
        m.move(2, 4, 0, 5, 0);
        DUE.is("level 2", m.at(2, 4, 1), at2 + 5);
        DUE.is("level 1", m.at(1, 4, 1), at1);
        m.move(1, 4, 0, 3, 0);
        DUE.is("level 1", m.at(1, 4, 1), at1 + 3);
        DUE.is("level 0", m.at(0, 4, 1), at0);
    }

    /** "They stay when THE BASE is changed" */
    private static void moveStaysWhenTheBaseIsChanged() {
        MidSkins m = Nets.tetrahedron();
        m.move(1, 5, 0, 0, 30);
        int before = m.at(1, 5, 2);
        m.undo();
        DUE.is("stays behind undo", m.moved(1, 5, 2), 30);
        Nets.face(m, 1, 2, 3);
        DUE.is("is there again behind face", m.at(1, 5, 2), before);
        m.place(3, 2, 50);
        DUE.is("stays behind place", m.at(1, 5, 2), before - 50);
        m.turn(0);
        DUE.is("stays behind turn", m.moved(1, 5, 2), 30);
        m.turn(0);
        DUE.is("is there again behind turn", m.at(1, 5, 2), before - 50);
        Nets.corner(m, 1, 1, 1);
        DUE.is("stays behind corner", m.moved(1, 5, 2), 30);
        DUE.is("count", m.count(2), 1);
        for (int f = 0; f < 4; f++) m.undo();
        DUE.is("stays without plates", m.moved(1, 5, 2), 30);
        m.clear();
        DUE.is("but not behind clear", m.moved(1, 5, 2), 0);
    }

    /** "those of CORNERS that are not there do nothing" */
    private static void moveOfNoCornerDoesNothing() {
        MidSkins still = Nets.tetrahedron();
        MidSkins m = Nets.tetrahedron();
        int[] corners = {0, 6, 12, 24};
        for (int level = 1; level <= 3; level++) {
            m.move(level, corners[level], 1000, 1000, 1000);
            m.move(level, 1000, 1000, 1000, 1000);
        }
        for (int level = 0; level <= 3; level++) {
            DUE.is("room", m.room(level), still.room(level));
            for (int what = 0; what < 6; what++) DUE.is("many", m.many(level, what), still.many(level, what));
            for (int axis = 0; axis < 3; axis++) {
                DUE.is("box", m.box(level, axis, 1), still.box(level, axis, 1));
                DUE.is("middle", m.middle(level, 0, axis), still.middle(level, 0, axis));
            }
        }
        DUE.is("at: it is not there", m.at(1, 6, 0), -2000000001);
        DUE.is("it is told all the same", m.moved(3, 24, 2), 1000);
        DUE.is("and counted", m.count(2), 6);
    }

    private static void moveOfACornerThatComes() {
        MidSkins m = Nets.tetrahedron();
        m.move(1, 8, 1, 2, 3);
        DUE.is("not there yet", m.at(1, 8, 0), -2000000001);
        m.undo();
        Nets.corner(m, 50, 60, 70);
        Nets.face(m, 1, 2, 4);
        Nets.face(m, 2, 3, 4);
        Nets.face(m, 3, 1, 4);
        // Edge 8 goes from corner 3 to corner 4.
        DUE.is("there, x", m.at(1, 8, 0), 50 + 1);
        DUE.is("there, y", m.at(1, 8, 1), 60 + 2);
        DUE.is("there, z", m.at(1, 8, 2), 100 + 70 + 3);
    }

    private static void moveWorksInSpiteOfAFault() {
        MidSkins m = Nets.faulty();
        DUE.is("move with a fault", m.move(1, 0, 5, 0, 0), 1);
        DUE.is("moved with a fault", m.moved(1, 0, 0), 5);
        Nets.face(m, 1, 2, 3);
        DUE.is("seen without it", m.at(1, 0, 0), 5);
    }
}
