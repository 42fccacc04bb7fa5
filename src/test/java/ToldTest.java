import java.math.BigInteger;

/** Promises 24 to 26 and CAUSES: cause, count, digest. */
public final class ToldTest {
    private static final Due DUE = new Due();

    public static void main(String[] args) {
        causeIsZeroBeforeAny();
        causeIsTheLatest();
        causeStaysBehindGoodCalls();
        causeStaysBehindRefusals();
        countOfNothing();
        countOfSome();
        countOfTheMost();
        countRefuses();
        digestOfNothing();
        digestOfCorners();
        digestOfPlates();
        digestOfMoves();
        digestOfEachFault();
        digestOfLevelTwo();
        digestWraps();
        digestChangesNothing();
        DUE.end();
    }

    /** "0 before any" */
    private static void causeIsZeroBeforeAny() {
        MidSkins m = new MidSkins();
        DUE.is("new", m.cause(), 0);
        m.undo();
        m.many(0, 0);
        m.row(3, 0);
        DUE.is("refusals are none", m.cause(), 0);
        Nets.corners(m, 3);
        m.room(0);
        DUE.is("good calls are none", m.cause(), 0);
    }

    private static void causeIs(String what, MidSkins m, int answer, int cause) {
        DUE.is(what + ": -10 less it", answer, -10 - cause);
        DUE.is(what + ": cause", m.cause(), cause);
        DUE.is(what + ": asking leaves it", m.cause(), cause);
    }

    /** "1 NULL, 2 INDEX, 3 SIZE, 4 CAST", "The latest CAUSE" */
    private static void causeIsTheLatest() {
        MidSkins m = new MidSkins();
        causeIs("null of lose", m, m.lose(), 1);
        causeIs("size", m, m.row(0, -1), 3);
        causeIs("null of put", m, m.put(0, 0, 0), 1);
        m.row(0, 2);
        causeIs("cast", m, m.put(1, 0, 0), 4);
        causeIs("index of put", m, m.put(0, 2, 0), 2);
        causeIs("cast again", m, m.put(2, 2, 0), 4);
        causeIs("index of corner", m, m.corner(), 2);
        causeIs("size again", m, m.row(2, Integer.MIN_VALUE), 3);
        causeIs("index of face", m, m.face(3), 2);
        m.lose();
        causeIs("null of corner", m, m.corner(), 1);
        causeIs("size", m, m.row(1, -8), 3);
        causeIs("null of face", m, m.face(6), 1);
    }

    private static void causeStaysBehindGoodCalls() {
        MidSkins m = new MidSkins();
        m.row(0, -1);
        m.row(0, 3);
        m.put(0, 0, 1);
        m.corner();
        m.place(0, 0, 2);
        m.face(3);
        m.turn(0);
        m.undo();
        m.fault(0);
        m.move(1, 1, 1, 1, 1);
        m.moved(1, 1, 1);
        m.count(0);
        m.digest();
        m.clear();
        m.lose();
        DUE.is("good calls leave it", m.cause(), 3);
        Nets.corners(m, 4);
        Nets.faces(m, Nets.TETRAHEDRON);
        for (int level = 0; level <= 3; level++) m.room(level);
        DUE.is("levels leave it", m.cause(), 3);
    }

    private static void causeStaysBehindRefusals() {
        MidSkins m = new MidSkins();
        m.lose();
        m.row(3, 0);
        m.row(0, 9);
        m.put(3, 0, 0);
        m.face(2);
        m.undo();
        m.turn(0);
        m.place(0, 0, 0);
        m.fault(2);
        m.many(0, 0);
        m.at(4, 0, 0);
        m.move(4, 0, 0, 0, 0);
        m.count(4);
        DUE.is("refusals leave it", m.cause(), 1);
        Nets.hand(m, 2, 1001, 0, 0);
        m.corner();
        m.face(3);
        DUE.is("so do those that come behind a cause", m.cause(), 1);
    }

    private static void countsAre(String what, MidSkins m, int... want) {
        for (int k = 0; k < 4; k++) DUE.is(what + ": count(" + k + ")", m.count(k), want[k]);
    }

    /** "NONE: it is LOST" */
    private static void countOfNothing() {
        MidSkins m = new MidSkins();
        countsAre("new", m, 0, 0, 0, -1);
        m.row(2, 0);
        countsAre("a row of none", m, 0, 0, 0, 0);
        m.lose();
        countsAre("a lost row", m, 0, 0, 0, -1);
    }

    /** "0 CORNERS, 1 PLATES of THE BASE, 2 MOVES, 3 numbers in THE ROW" */
    private static void countOfSome() {
        MidSkins m = Nets.octahedron(10);
        m.move(1, 1, 1, 1, 1);
        countsAre("octahedron", m, 6, 8, 1, 3);
        m.undo();
        countsAre("with a fault", m, 6, 7, 1, 3);
        m.row(1, 8);
        countsAre("the longest row", m, 6, 7, 1, 8);
        m.clear();
        countsAre("cleared", m, 0, 0, 0, 8);
    }

    private static void countOfTheMost() {
        MidSkins m = Greatest.net();
        for (int c = 0; c < 41; c++) m.move(3, c, 1, 0, 0);
        m.corner();
        m.face(6);
        countsAre("the most", m, 14, 14, 40, 6);
    }

    /** "OUTSIDE" */
    private static void countRefuses() {
        for (MidSkins m : new MidSkins[] {new MidSkins(), Nets.tetrahedron(), Nets.faulty()}) {
            Ends.are(DUE, "count: what", 0, 3, -102, what -> m.count(what));
        }
    }

    /** "h is 149, then .. 31 times h, and it": THE FAULT alone. */
    private static void digestOfNothing() {
        DUE.is("new", new MidSkins().digest(), 149 * 31 + 1);
        MidSkins m = new MidSkins();
        m.row(2, 5);
        DUE.is("the row is not in it", m.digest(), 4620);
        m.lose();
        m.lose();
        DUE.is("the cause is not in it", m.digest(), 4620);
    }

    /** "of each CORNER x, y, z" */
    private static void digestOfCorners() {
        MidSkins m = new MidSkins();
        Nets.corner(m, 1, -2, 3);
        DUE.is("one corner", m.digest(), Digest.of(1, -2, 3, 1));
        Nets.corner(m, -1000, 1000, 0);
        DUE.is("two corners", m.digest(), Digest.of(1, -2, 3, -1000, 1000, 0, 1));
    }

    /** "of each PLATE how many CORNERS, these" */
    private static void digestOfPlates() {
        MidSkins m = new MidSkins();
        m.row(0, 3);
        for (int c = 0; c < 6; c++) m.corner();
        Nets.face(m, 5, 4, 3, 2, 1, 0);
        Nets.face(m, 0, 1, 2);
        long h = Digest.of(new int[18]);
        DUE.is("two plates", m.digest(), Digest.on(h, 6, 5, 4, 3, 2, 1, 0, 3, 0, 1, 2, 4));
    }

    /** "of LEVELS 1 to 3, of each all MOVES by their CORNER: the CORNER, x, y, z" */
    private static void digestOfMoves() {
        MidSkins m = new MidSkins();
        m.move(3, 2, 7, 8, 9);
        m.move(1, 1000, 1, 2, 3);
        m.move(2, 0, 4, 5, 6);
        m.move(1, 20, -1, 0, 0);
        m.move(1, 3, 0, 0, -9);
        long h = Digest.of(3, 0, 0, -9, 20, -1, 0, 0, 1000, 1, 2, 3, 0, 4, 5, 6, 2, 7, 8, 9, 1);
        DUE.is("moves by level and corner", m.digest(), h);
        m.move(1, 20, 0, 0, 0);
        DUE.is("one less", m.digest(), Digest.of(3, 0, 0, -9, 1000, 1, 2, 3, 0, 4, 5, 6, 2, 7, 8, 9, 1));
        m.move(3, 0, 5, 5, 5);
        m.move(1, 1000, 0, 0, 1);
        h = Digest.of(3, 0, 0, -9, 1000, 0, 0, 1, 0, 4, 5, 6, 0, 5, 5, 5, 2, 7, 8, 9, 1);
        DUE.is("one more and one anew", m.digest(), h);
        MidSkins t = Nets.tetrahedron();
        long before = t.digest();
        t.move(3, 0, 1, 0, 0);
        t.move(3, 0, 0, 0, 0);
        DUE.is("there and back", t.digest(), before);
    }

    /** "THE FAULT"; with one there is no level 2 to tell. */
    private static void digestOfEachFault() {
        int[][][] nets = {{{0, 1, 1}}, {{0, 1, 2}, {0, 1, 3}}, {{0, 1, 2}}, Nets.TETRAHEDRON, Nets.PINCHED, Nets.THIN};
        for (int k = 0; k < nets.length; k++) {
            MidSkins m = new MidSkins();
            m.row(1, 3);
            int corners = Nets.cornersOf(nets[k]) + (k == 3 ? 1 : 0);
            for (int c = 0; c < corners; c++) m.corner();
            Nets.faces(m, nets[k]);
            m.move(2, 9, 1, 2, 3);
            long h = Digest.of(new int[3 * corners]);
            for (int[] ring : nets[k]) h = Digest.on(Digest.on(h, ring.length), ring);
            DUE.is("fault " + (k + 2), m.digest(), Digest.on(h, 9, 1, 2, 3, k + 2));
        }
    }

    /** "if it is 0, all numbers of CORNERS of LEVEL 2", with the moves of levels 1 and 2. */
    private static void digestOfLevelTwo() {
        MidSkins m = Nets.tetrahedron();
        long base = Digest.of(0, 0, 0, 100, 0, 0, 0, 100, 0, 0, 0, 100);
        base = Digest.on(base, 3, 0, 2, 1, 3, 0, 1, 3, 3, 0, 3, 2, 3, 1, 2, 3);
        DUE.is("without moves", m.digest(), Digest.on(Digest.on(base, 0), levelTwo(m)));
        m.move(3, 0, 1, 0, 0);
        DUE.is("level 3", m.digest(), Digest.on(Digest.on(base, 0, 1, 0, 0, 0), levelTwo(m)));
        m.move(3, 0, 0, 0, 0);
        m.move(2, 11, 7, 0, 0);
        m.move(1, 0, 1, 0, 0);
        DUE.is("level 1 carries to level 2", m.at(2, 0, 0), 101);
        DUE.is("with moves", m.digest(), Digest.on(Digest.on(base, 0, 1, 0, 0, 11, 7, 0, 0, 0), levelTwo(m)));
        m.place(1, 0, 101);
        DUE.is("place carries to level 2", m.at(2, 1, 0), 202);
    }

    private static int[] levelTwo(MidSkins m) {
        int[] numbers = new int[36];
        for (int i = 0; i < 36; i++) numbers[i] = m.at(2, i / 3, i % 3);
        return numbers;
    }

    /** "(as longs, wrapping)" */
    private static void digestWraps() {
        MidSkins m = new MidSkins();
        Nets.hand(m, 2, 1000, 1000, 1000);
        for (int c = 0; c < 14; c++) m.corner();
        BigInteger times = BigInteger.valueOf(31);
        BigInteger h = BigInteger.valueOf(149);
        for (int k = 0; k < 14 * 3; k++) h = h.multiply(times).add(BigInteger.valueOf(1000));
        h = h.multiply(times).add(BigInteger.ONE);
        DUE.is("wrapped", m.digest(), h.longValue());
    }

    private static void digestChangesNothing() {
        MidSkins m = Nets.cube(50);
        m.move(2, 3, 1, 2, 3);
        long before = m.digest();
        for (int k = 0; k < 3; k++) DUE.is("digest again", m.digest(), before);
        DUE.is("fault", m.fault(0), 0);
        DUE.is("cause", m.cause(), 0);
    }
}
