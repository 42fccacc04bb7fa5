/** Promises 24 to 26: cause, count, digest; and that what is refused changes nothing. */
public final class ToldTest {
    private static final Due DUE = new Due();

    public static void main(String[] args) {
        causes();
        counts();
        digestOfTetrahedron();
        digestOfMoves();
        refusedChangesNothing();
        DUE.end();
    }

    private static void causes() {
        MidSkins m = new MidSkins();
        DUE.is("before any", m.cause(), 0);
        m.undo();
        m.many(0, 0);
        DUE.is("refusals are none", m.cause(), 0);
        m.lose();
        DUE.is("null", m.cause(), 1);
        m.row(0, -1);
        DUE.is("size", m.cause(), 3);
        m.row(0, 2);
        DUE.is("a good call leaves it", m.cause(), 3);
        m.put(1, 0, 0);
        DUE.is("cast", m.cause(), 4);
        m.put(0, 2, 0);
        DUE.is("index of put", m.cause(), 2);
        m.lose();
        m.put(0, 0, 0);
        DUE.is("null of put", m.cause(), 1);
        m.row(0, 2);
        m.corner();
        DUE.is("index of corner", m.cause(), 2);
        m.lose();
        m.corner();
        DUE.is("null of corner", m.cause(), 1);
        m.row(0, 2);
        m.face(3);
        DUE.is("index of face", m.cause(), 2);
        m.lose();
        m.face(3);
        DUE.is("null of face", m.cause(), 1);
        m.clear();
        DUE.is("clear leaves it", m.cause(), 1);
        DUE.is("asking leaves it", m.cause(), 1);
    }

    private static void counts() {
        MidSkins m = Nets.octahedron(10);
        m.move(1, 1, 1, 1, 1);
        DUE.is("corners", m.count(0), 6);
        DUE.is("plates", m.count(1), 8);
        DUE.is("moves", m.count(2), 1);
        DUE.is("the row", m.count(3), 3);
        m.row(2, 0);
        DUE.is("a row of none", m.count(3), 0);
        m.lose();
        DUE.is("a lost row", m.count(3), -1);
        for (int what : new int[] {-1, 4, Integer.MAX_VALUE, Integer.MIN_VALUE}) DUE.is("outside", m.count(what), -102);
    }

    private static long mixed(long h, int... numbers) {
        for (int v : numbers) h = 31 * h + v;
        return h;
    }

    private static void digestOfTetrahedron() {
        MidSkins m = Nets.tetrahedron();
        long base = mixed(149, 0, 0, 0, 100, 0, 0, 0, 100, 0, 0, 0, 100);
        base = mixed(base, 3, 0, 2, 1, 3, 0, 1, 3, 3, 0, 3, 2, 3, 1, 2, 3);
        long whole = mixed(base, 0);
        for (int c = 0; c < 12; c++) whole = mixed(whole, m.at(2, c, 0), m.at(2, c, 1), m.at(2, c, 2));
        DUE.is("digest without fault", m.digest(), whole);
        DUE.is("digest changes nothing", m.digest(), whole);
        Nets.corner(m, 1, -2, 3);
        long lonely = mixed(149, 0, 0, 0, 100, 0, 0, 0, 100, 0, 0, 0, 100, 1, -2, 3);
        lonely = mixed(lonely, 3, 0, 2, 1, 3, 0, 1, 3, 3, 0, 3, 2, 3, 1, 2, 3);
        DUE.is("digest with a fault", m.digest(), mixed(lonely, 5));
        DUE.is("empty", new MidSkins().digest(), 4620);
    }

    private static void digestOfMoves() {
        MidSkins m = new MidSkins();
        m.move(3, 2, 7, 8, 9);
        m.move(1, 1000, 1, 2, 3);
        m.move(2, 0, 4, 5, 6);
        m.move(1, 20, -1, 0, 0);
        m.move(1, 3, 0, 0, -9);
        long h = mixed(149, 3, 0, 0, -9, 20, -1, 0, 0, 1000, 1, 2, 3, 0, 4, 5, 6, 2, 7, 8, 9, 1);
        DUE.is("moves by level and corner", m.digest(), h);
        m.move(1, 20, 0, 0, 0);
        h = mixed(149, 3, 0, 0, -9, 1000, 1, 2, 3, 0, 4, 5, 6, 2, 7, 8, 9, 1);
        DUE.is("one less", m.digest(), h);
        MidSkins t = Nets.tetrahedron();
        long before = t.digest();
        t.move(3, 0, 1, 0, 0);
        t.move(3, 0, 0, 0, 0);
        DUE.is("there and back", t.digest(), before);
        t.move(1, 0, 1, 0, 0);
        DUE.holds("level 1 carries to level 2", t.at(2, 0, 0) == 101 && t.digest() != before);
    }

    private static void refusedChangesNothing() {
        MidSkins m = Nets.cube(50);
        m.move(2, 3, 1, 2, 3);
        m.row(0, 2);
        long before = m.digest();
        m.row(0, 9);
        m.row(0, -1);
        m.put(0, 2, 1);
        m.put(1, 0, 1);
        m.corner();
        m.face(3);
        m.face(7);
        m.place(8, 0, 1);
        m.place(0, 0, 1001);
        m.turn(6);
        m.move(0, 0, 1, 1, 1);
        m.move(2, 3, 1, 1001, 1);
        m.fault(7);
        DUE.is("digest", m.digest(), before);
        DUE.is("the row", m.count(3), 2);
        DUE.is("fault", m.fault(0), 0);
    }
}
