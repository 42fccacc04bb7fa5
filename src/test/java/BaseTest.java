/** Promises 5 to 10: corner, place, face, undo, turn, clear. */
public final class BaseTest {
    public static void main(String[] args) {
        Due due = new Due();
        corners(due);
        cornerLimits(due);
        places(due);
        faces(due);
        faceLimits(due);
        undoing(due);
        turning(due);
        clearing(due);
        due.end();
    }

    private static void corners(Due due) {
        MidSkins m = new MidSkins();
        due.is("corner: null", m.corner(), -11);
        Nets.hand(m, 2, 5000, 6);
        due.is("corner: index, ahead of outside", m.corner(), -12);
        due.is("corner: cause", m.cause(), 2);
        for (int i = 0; i < 3; i++) {
            for (int v : new int[] {1001, -1001, Integer.MAX_VALUE, Integer.MIN_VALUE}) {
                Nets.hand(m, 2, 1, 2, 3, 4);
                m.put(2, i, v);
                due.is("corner: number " + i + " is " + v, m.corner(), -102);
            }
        }
        due.is("corner: none so far", m.count(0), 0);
        Nets.hand(m, 2, 1000, -1000, 0, 5000);
        due.is("corner: the fourth number is not looked at", m.corner(), 0);
        due.is("corner: one more of the same row", m.corner(), 1);
        Nets.hand(m, 1, 4, 5, 6);
        due.is("corner: of shorts", m.corner(), 2);
        due.is("corner: the row stays", m.count(3), 3);
        due.is("corner: x", m.place(0, 0, 0), 1000);
        due.is("corner: y", m.place(0, 1, 0), -1000);
        due.is("corner: z", m.place(2, 2, 0), 6);
    }

    private static void cornerLimits(Due due) {
        MidSkins m = new MidSkins();
        m.row(2, 3);
        for (int c = 0; c < 14; c++) due.is("corner", m.corner(), c);
        due.is("corner: full", m.corner(), -104);
        m.put(2, 1, 1001);
        due.is("corner: outside ahead of full", m.corner(), -102);
        m.row(2, 2);
        due.is("corner: index ahead of full", m.corner(), -12);
        m.lose();
        due.is("corner: null ahead of full", m.corner(), -11);
        due.is("corner: how many", m.count(0), 14);
    }

    private static void places(Due due) {
        MidSkins m = new MidSkins();
        due.is("place: no corner", m.place(0, 0, 0), -101);
        Nets.corners(m, 2);
        due.is("place", m.place(1, 0, 1000), 10);
        due.is("place: again", m.place(1, 0, -1000), 1000);
        due.is("place: corner 2", m.place(2, 0, 0), -101);
        due.is("place: corner -1", m.place(-1, 0, 0), -101);
        due.is("place: axis 3", m.place(0, 3, 0), -101);
        due.is("place: axis -1", m.place(1, -1, 0), -101);
        due.is("place: unknown ahead of outside", m.place(0, 3, 1001), -101);
        due.is("place: 1001", m.place(1, 0, 1001), -102);
        due.is("place: -1001", m.place(1, 0, -1001), -102);
        due.is("place: least", m.place(1, 0, Integer.MIN_VALUE), -102);
        due.is("place: kept", m.place(1, 0, 0), -1000);
        due.is("place: y is another", m.place(1, 1, 0), 1);
        due.is("place: z is another", m.place(1, 2, 0), -1);
        MidSkins t = Nets.tetrahedron();
        due.is("place: seen at level 1", t.at(1, 0, 1), 100);
        t.place(2, 1, 130);
        due.is("place: seen at level 1 behind it", t.at(1, 0, 1), 130);
        due.is("place: seen at level 0", t.at(0, 2, 1), 130);
    }

    private static void faces(Due due) {
        MidSkins m = new MidSkins();
        due.is("face: 2, ahead of null", m.face(2), -102);
        due.is("face: 7", m.face(7), -102);
        due.is("face: least", m.face(Integer.MIN_VALUE), -102);
        due.is("face: null", m.face(3), -11);
        Nets.hand(m, 0, 0, 1);
        due.is("face: index, ahead of unknown", m.face(3), -12);
        due.is("face: cause", m.cause(), 2);
        Nets.hand(m, 0, 0, 0, 0);
        due.is("face: no corners yet", m.face(3), -101);
        Nets.corners(m, 6);
        Nets.hand(m, 2, 0, 1, 6);
        due.is("face: corner 6", m.face(3), -101);
        Nets.hand(m, 2, -1, 1, 2);
        due.is("face: corner -1", m.face(3), -101);
        Nets.hand(m, 2, 0, 1, 2, 99);
        due.is("face: the fourth number is not looked at", m.face(3), 1);
        due.is("face: the fourth number is looked at", m.face(4), -101);
        Nets.hand(m, 1, 5, 4, 3, 2, 1, 0);
        due.is("face: of six", m.face(6), 2);
        due.is("face: of five", m.face(5), 3);
        due.is("face: seven is not as told", m.face(7), -102);
        Nets.hand(m, 0, 1, 1, 1);
        due.is("face: one corner thrice", m.face(3), 4);
        due.is("face: fault", m.fault(0), 2);
        due.is("face: place", m.fault(1), 3);
        due.is("face: how many", m.count(1), 4);
    }

    private static void faceLimits(Due due) {
        MidSkins m = new MidSkins();
        Nets.corners(m, 6);
        Nets.hand(m, 0, 0, 1, 2, 3, 4, 5);
        for (int f = 1; f <= 14; f++) due.is("face", m.face(6), f);
        due.is("face: full", m.face(6), -104);
        m.put(0, 5, 6);
        due.is("face: unknown ahead of full", m.face(6), -101);
        due.is("face: full", m.face(5), -104);
        m.row(0, 2);
        due.is("face: index ahead of full", m.face(3), -12);
        due.is("face: outside ahead of full", m.face(2), -102);
        due.is("face: how many", m.count(1), 14);
        m.undo();
        Nets.hand(m, 0, 0, 1, 2);
        due.is("face: room again", m.face(3), 14);
    }

    private static void undoing(Due due) {
        MidSkins m = new MidSkins();
        due.is("undo: none", m.undo(), -103);
        Nets.corners(m, 4);
        Nets.faces(m, Nets.TETRAHEDRON);
        due.is("undo: closed before", m.fault(0), 0);
        due.is("undo", m.undo(), 3);
        due.is("undo: open behind", m.fault(0), 4);
        due.is("undo: put back", Nets.face(m, 3, 2, 1), 4);
        due.is("undo: closed again", m.fault(0), 0);
        due.is("undo: the latest is gone", m.ring(0, 3, 0), 3);
        for (int left = 3; left >= 0; left--) due.is("undo", m.undo(), left);
        due.is("undo: none left", m.undo(), -103);
        due.is("undo: corners stay", m.count(0), 4);
        due.is("undo: no plate", m.fault(0), 1);
    }

    private static void turning(Due due) {
        MidSkins m = Nets.tetrahedron();
        due.is("turn: 4", m.turn(4), -101);
        due.is("turn: -1", m.turn(-1), -101);
        due.is("turn: most", m.turn(Integer.MAX_VALUE), -101);
        due.is("turn", m.turn(2), 1);
        due.is("turn: a fault", m.fault(0), 3);
        due.is("turn: back", m.turn(2), 1);
        due.is("turn: no fault", m.fault(0), 0);
        long room = m.room(0);
        for (int f = 0; f < 4; f++) m.turn(f);
        due.is("turn: inside out", m.room(0), -room);
        due.holds("turn: first stays", Nets.ringOf(m, 0, 1).equals("0 3 1"));
        MidSkins c = Nets.cube(1);
        for (int f = 0; f < 6; f++) c.turn(f);
        due.holds("turn: of four", Nets.ringOf(c, 0, 0).equals("0 1 3 2"));
        MidSkins six = new MidSkins();
        Nets.corners(six, 6);
        Nets.face(six, 0, 1, 2, 3, 4, 5);
        Nets.face(six, 0, 1, 2, 3, 4);
        due.is("turn: of six", six.turn(0), 1);
        due.is("turn: of five", six.turn(1), 1);
        long h = 149;
        for (int c2 = 0; c2 < 6; c2++) h = ((h * 31 + 10 * c2) * 31 + c2 * c2) * 31 - c2;
        for (int v : new int[] {6, 0, 5, 4, 3, 2, 1, 5, 0, 4, 3, 2, 1, 3}) h = h * 31 + v;
        due.is("turn: seen in the digest", six.digest(), h);
    }

    private static void clearing(Due due) {
        MidSkins m = new MidSkins();
        due.is("clear: nothing", m.clear(), 0);
        m = Nets.tetrahedron();
        m.move(1, 0, 1, 2, 3);
        m.move(1, 900, 1, 2, 3);
        m.put(1, 0, 0);
        due.is("clear", m.clear(), 4);
        for (int what = 0; what <= 2; what++) due.is("clear: count", m.count(what), 0);
        due.is("clear: the row stays", m.count(3), 3);
        due.is("clear: the cause stays", m.cause(), 4);
        due.is("clear: moves are gone", m.moved(1, 0, 0), 0);
        due.is("clear: fault", m.fault(0), 1);
        due.is("clear: level", m.many(0, 0), -103);
        due.is("clear: digest", m.digest(), 4620);
        due.is("clear: corners begin anew", m.corner(), 0);
    }
}
