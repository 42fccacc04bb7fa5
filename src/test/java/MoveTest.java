/** Promises 22 and 23: move and moved. */
public final class MoveTest {
    private static final Due DUE = new Due();
    private static final int[] WRONG = {1001, -1001, Integer.MAX_VALUE, Integer.MIN_VALUE};

    public static void main(String[] args) {
        telling();
        refusals();
        full();
        movedIsNever();
        carried();
        kept();
        levelsApart();
        DUE.end();
    }

    private static void telling() {
        MidSkins m = new MidSkins();
        DUE.is("move on nothing", m.move(1, 0, 1, 2, 3), 1);
        DUE.is("another", m.move(3, 1000, 1000, -1000, 0), 2);
        DUE.is("the same anew", m.move(1, 0, -1, -2, -3), 2);
        for (int axis = 0; axis < 3; axis++) DUE.is("moved", m.moved(1, 0, axis), -1 - axis);
        DUE.is("moved x", m.moved(3, 1000, 0), 1000);
        DUE.is("moved y", m.moved(3, 1000, 1), -1000);
        DUE.is("moved z", m.moved(3, 1000, 2), 0);
        DUE.is("one number is enough", m.move(2, 0, 0, 0, 1), 3);
        DUE.is("none of one that is not", m.move(2, 1, 0, 0, 0), 3);
        DUE.is("none", m.move(1, 0, 0, 0, 0), 2);
        DUE.is("none again", m.move(1, 0, 0, 0, 0), 2);
        DUE.is("moved, none", m.moved(1, 0, 0), 0);
        DUE.is("the others stay", m.moved(2, 0, 2), 1);
        DUE.is("the others stay", m.moved(3, 1000, 0), 1000);
        DUE.is("count", m.count(2), 2);
    }

    private static void refusals() {
        MidSkins m = new MidSkins();
        m.move(2, 5, 1, 2, 3);
        for (int level : new int[] {0, 4, -1, Integer.MAX_VALUE, Integer.MIN_VALUE}) {
            DUE.is("move, level", m.move(level, 5, 1, 1, 1), -101);
            DUE.is("move, level ahead of number", m.move(level, 5, 2000, 1, 1), -101);
        }
        for (int c : new int[] {-1, 1001, Integer.MAX_VALUE, Integer.MIN_VALUE}) {
            DUE.is("move, corner", m.move(2, c, 1, 1, 1), -101);
            DUE.is("move, corner ahead of number", m.move(2, c, 1, 2000, 1), -101);
        }
        for (int v : WRONG) {
            DUE.is("move, x", m.move(2, 5, v, 0, 0), -102);
            DUE.is("move, y", m.move(2, 5, 0, v, 0), -102);
            DUE.is("move, z", m.move(2, 5, 0, 0, v), -102);
        }
        DUE.is("count", m.count(2), 1);
        for (int axis = 0; axis < 3; axis++) DUE.is("kept", m.moved(2, 5, axis), axis + 1);
        DUE.is("no cause", m.cause(), 0);
    }

    private static void full() {
        MidSkins m = new MidSkins();
        for (int i = 0; i < 40; i++) DUE.is("move " + i, m.move(1 + i % 3, 1000 - 7 * i, i + 1, 0, 0), i + 1);
        DUE.is("full", m.move(1, 3, 1, 1, 1), -104);
        DUE.is("outside ahead of full", m.move(1, 3, 1, 1001, 1), -102);
        DUE.is("unknown ahead of full", m.move(4, 3, 1, 1, 1), -101);
        DUE.is("full, none", m.move(1, 3, 0, 0, 0), 40);
        DUE.is("full, the same anew", m.move(1, 1000, 5, 0, 0), 40);
        for (int i = 1; i < 40; i++) DUE.is("moved " + i, m.moved(1 + i % 3, 1000 - 7 * i, 0), i + 1);
        DUE.is("one less", m.move(2, 993, 0, 0, 0), 39);
        DUE.is("one more", m.move(1, 3, 1, 1, 1), 40);
        DUE.is("full again", m.move(2, 993, 1, 0, 0), -104);
        DUE.is("moved of none", m.moved(2, 993, 0), 0);
    }

    private static void movedIsNever() {
        MidSkins m = new MidSkins();
        for (int level = 1; level <= 3; level++) m.move(level, 0, 1, 1, 1);
        for (int v : new int[] {-1, 4, 1001, Integer.MAX_VALUE, Integer.MIN_VALUE}) {
            DUE.is("moved, level", m.moved(v, 0, 0), 0);
            DUE.is("moved, corner", m.moved(1, v, 0), 0);
            DUE.is("moved, axis", m.moved(1, 0, v), 0);
        }
        DUE.is("moved, level 0", m.moved(0, 0, 0), 0);
        DUE.is("moved, axis 3", m.moved(1, 0, 3), 0);
    }

    private static void carried() {
        MidSkins m = Nets.tetrahedron();
        int before1 = m.at(1, 2, 0);
        int before2 = m.at(2, 2, 0);
        int before3 = m.at(3, 2, 0);
        m.move(1, 2, 10, 0, 0);
        DUE.is("level 1", m.at(1, 2, 0), before1 + 10);
        DUE.is("level 2: edge 2 ends at corner 2", m.at(2, 2, 0), before2 + 10);
        DUE.is("level 2, another", m.at(2, 6, 0), 0);
        DUE.is("level 3: both ends hold it", m.at(3, 2, 0), before3 + movedEnds(m, 2));
        DUE.is("level 0", m.at(0, 2, 0), 0);
        m.move(1, 2, 0, 0, 0);
        DUE.is("level 1, none", m.at(1, 2, 0), before1);
        DUE.is("level 2, none", m.at(2, 2, 0), before2);
        DUE.is("level 3, none", m.at(3, 2, 0), before3);
        m.move(3, 24, 1, 1, 1);
        DUE.is("of a corner that is not there", m.at(3, 23, 0), m.at(2, m.edge(2, 23, 0), 0) + m.at(2, m.edge(2, 23, 1), 0));
        DUE.is("it is told all the same", m.moved(3, 24, 2), 1);
    }

    /** How far the move by 10 of corner 2 of level 1 carries corner c of level 3. */
    private static int movedEnds(MidSkins m, int c) {
        int sum = 0;
        for (int side = 0; side < 2; side++) {
            int e = m.edge(2, c, side);
            if (m.edge(1, e, 0) == 2 || m.edge(1, e, 1) == 2) sum += 10;
        }
        return sum;
    }

    private static void kept() {
        MidSkins m = Nets.tetrahedron();
        m.move(1, 5, 0, 0, 30);
        int before = m.at(1, 5, 2);
        m.undo();
        DUE.is("stays with a fault", m.moved(1, 5, 2), 30);
        Nets.face(m, 1, 2, 3);
        DUE.is("is there again", m.at(1, 5, 2), before);
        m.place(3, 2, 50);
        DUE.is("stays when a corner is placed", m.at(1, 5, 2), before - 50);
        m.move(1, 7, 3, 0, 0);
        DUE.is("does nothing yet", m.many(1, 0), 6);
        long h = m.digest();
        DUE.is("counted", m.count(2), 2);
        DUE.holds("told in the digest", h != Nets.tetrahedron().digest());
    }

    private static void levelsApart() {
        MidSkins m = Nets.cube(100);
        int at1 = m.at(1, 4, 1);
        int at2 = m.at(2, 4, 1);
        int at3 = m.at(3, 4, 1);
        m.move(3, 4, 0, 9, 0);
        DUE.is("level 3", m.at(3, 4, 1), at3 + 9);
        DUE.is("level 2", m.at(2, 4, 1), at2);
        m.move(2, 4, 0, 5, 0);
        DUE.is("level 2", m.at(2, 4, 1), at2 + 5);
        DUE.is("level 1", m.at(1, 4, 1), at1);
        m.move(2, 4, 0, -5, 0);
        DUE.is("level 2 anew", m.at(2, 4, 1), at2 - 5);
    }
}
