/** Promises 1 to 4: a new object, row, put, lose; with cause() and count(3), by which they are seen. */
public final class RowTest {
    public static void main(String[] args) {
        Due due = new Due();
        newObject(due);
        rows(due);
        puts(due);
        lanesCast(due);
        losing(due);
        due.end();
    }

    private static void newObject(Due due) {
        MidSkins m = new MidSkins();
        for (int what = 0; what <= 2; what++) due.is("new: count(" + what + ")", m.count(what), 0);
        due.is("new: the row is lost", m.count(3), MidSkins.NONE);
        due.is("new: cause", m.cause(), 0);
        due.is("new: fault", m.fault(0), 1);
        due.is("new: digest", m.digest(), 149L * 31 + 1);
        due.is("new: lose", m.lose(), -11);
    }

    private static void rows(Due due) {
        MidSkins m = new MidSkins();
        for (int lane = 0; lane <= 2; lane++) {
            for (int n = 0; n <= 8; n++) {
                due.is("row", m.row(lane, n), n);
                due.is("row: numbers", m.count(3), n);
            }
        }
        m.row(1, 5);
        due.is("row: lane -1", m.row(-1, 3), -102);
        due.is("row: lane 3", m.row(3, 3), -102);
        due.is("row: n 9", m.row(0, 9), -102);
        due.is("row: n most", m.row(0, Integer.MAX_VALUE), -102);
        due.is("row: lane ahead of size", m.row(3, -1), -102);
        due.is("row: no cause so far", m.cause(), 0);
        due.is("row: n -1", m.row(0, -1), -13);
        due.is("row: n least", m.row(2, Integer.MIN_VALUE), -13);
        due.is("row: cause", m.cause(), 3);
        due.is("row: the old one stays", m.count(3), 5);
        due.is("row: of its lane", m.put(1, 4, 1), 1);
        newRowIsZero(due);
    }

    private static void newRowIsZero(Due due) {
        MidSkins m = new MidSkins();
        Nets.hand(m, 2, 7, 8, 9, 10);
        m.row(2, 4);
        due.is("row: corner of zeros", m.corner(), 0);
        for (int axis = 0; axis < 3; axis++) due.is("row: zero", m.place(0, axis, 0), 0);
    }

    private static void puts(Due due) {
        MidSkins m = new MidSkins();
        due.is("put: null", m.put(0, 0, 1), -11);
        due.is("put: lane ahead of null", m.put(3, 0, 1), -102);
        due.is("put: lane -1", m.put(-1, 0, 1), -102);
        due.is("put: cause", m.cause(), 1);
        m.row(1, 3);
        due.is("put: cast", m.put(0, 0, 1), -14);
        due.is("put: cast to int", m.put(2, 0, 1), -14);
        due.is("put: cast ahead of index", m.put(2, 3, 1), -14);
        due.is("put: cause", m.cause(), 4);
        due.is("put: index 3", m.put(1, 3, 1), -12);
        due.is("put: index -1", m.put(1, -1, 1), -12);
        due.is("put: index most", m.put(1, Integer.MAX_VALUE, 1), -12);
        due.is("put: index least", m.put(1, Integer.MIN_VALUE, 1), -12);
        due.is("put: cause", m.cause(), 2);
        due.is("put: last", m.put(1, 2, 1), 1);
        due.is("put: first", m.put(1, 0, 5), 1);
        due.is("put: a good call leaves the cause", m.cause(), 2);
        due.is("put: corner", m.corner(), 0);
        due.is("put: x", m.place(0, 0, 0), 5);
        due.is("put: y", m.place(0, 1, 0), 0);
        due.is("put: z", m.place(0, 2, 0), 1);
        m.row(0, 0);
        due.is("put: in a row of none", m.put(0, 0, 0), -12);
    }

    private static int cast(int lane, int v) {
        MidSkins m = new MidSkins();
        Nets.hand(m, lane, 0, v, 0);
        return m.corner() == 0 ? m.place(0, 1, 0) : MidSkins.OUTSIDE;
    }

    private static void lanesCast(Due due) {
        due.is("byte 127", cast(0, 127), 127);
        due.is("byte 128", cast(0, 128), -128);
        due.is("byte 1000", cast(0, 1000), (byte) 1000);
        due.is("byte least", cast(0, Integer.MIN_VALUE), 0);
        due.is("byte -129", cast(0, -129), 127);
        due.is("short 1000", cast(1, 1000), 1000);
        due.is("short 65536", cast(1, 65536 + 7), 7);
        due.is("short 65535", cast(1, 65535), -1);
        due.is("short 32768", cast(1, 32768), MidSkins.OUTSIDE);
        due.is("int 65537", cast(2, 65537), MidSkins.OUTSIDE);
        due.is("int -1000", cast(2, -1000), -1000);
    }

    private static void losing(Due due) {
        MidSkins m = new MidSkins();
        due.is("lose: null", m.lose(), -11);
        m.row(0, 4);
        due.is("lose", m.lose(), 1);
        due.is("lose: lost", m.count(3), MidSkins.NONE);
        due.is("lose: again", m.lose(), -11);
        due.is("lose: put", m.put(0, 0, 1), -11);
        due.is("lose: corner", m.corner(), -11);
        due.is("lose: face", m.face(3), -11);
        due.is("lose: cause", m.cause(), 1);
    }
}
