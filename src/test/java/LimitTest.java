import java.util.function.Supplier;

/** Nets at the limits, with all their levels and moves, held against the plain reading of the document. */
public final class LimitTest {
    private static final Due DUE = new Due();

    public static void main(String[] args) {
        greatest();
        hub();
        lastCalls();
        DUE.end();
    }

    /** 14 corners, 14 plates of six, 40 moves of the last corners of the levels. */
    private static void greatest() {
        int[] corners = {14, 42, 84, 168};
        int[] plates = {14, 28, 70, 154};
        MidSkins m = Greatest.net();
        DUE.is("fault", m.fault(0), 0);
        for (int level = 0; level < 4; level++) {
            DUE.is("corners", m.many(level, 0), corners[level]);
            DUE.is("edges", m.many(level, 1), 42 << level);
            DUE.is("plates", m.many(level, 2), plates[level]);
        }
        DUE.is("full of corners", m.corner(), -104);
        DUE.is("full of plates", m.face(6), -104);

        PlainSkins p = new PlainSkins();
        for (int c = 0; c < 14; c++) p.corners.add(Greatest.corner(c));
        for (int f = 0; f < 14; f++) p.plates.add(Greatest.ring(f));
        for (int i = 0; i < 40; i++) p.move(1 + i % 3, movedCorner(i), 1000, -1000, i);
        compare(p, LimitTest::greatestMoved, Greatest.SPENT + 40);
    }

    private static int movedCorner(int i) {
        return new int[] {41, 83, 167}[i % 3] - i / 3;
    }

    private static MidSkins greatestMoved() {
        MidSkins m = Greatest.net();
        for (int i = 0; i < 40; i++) m.move(1 + i % 3, movedCorner(i), 1000, -1000, i);
        return m;
    }

    /** A corner of eleven edges, and so a plate of eleven corners. */
    private static void hub() {
        PlainSkins p = new PlainSkins();
        for (int c = 0; c < 12; c++) p.corners.add(new int[] {10 * c, c * c, -c});
        for (int[] ring : Nets.HUB) p.plates.add(ring.clone());
        compare(p, () -> Nets.net(Nets.HUB), 200);
    }

    private static void compare(PlainSkins p, Supplier<MidSkins> maker, int spent) {
        Fresh net = new Fresh(maker, spent);
        for (int level = 0; level < 4; level++) {
            corners(net, p.level(level), level);
            edges(net, p.level(level), level);
            plates(net, p.level(level), level);
            measures(net, p, level);
        }
        DUE.is("digest", net.ask().digest(), p.digest());
    }

    private static void corners(Fresh net, PlainSkins.Level due, int level) {
        for (int c = 0; c < due.corners.size(); c++) {
            for (int axis = 0; axis < 3; axis++) DUE.is("at", net.ask().at(level, c, axis), due.corners.get(c)[axis]);
        }
        DUE.is("at, one more", net.ask().at(level, due.corners.size(), 0), -2000000001);
    }

    private static void edges(Fresh net, PlainSkins.Level due, int level) {
        for (int e = 0; e < due.edges.size(); e++) {
            for (int side = 0; side < 2; side++) DUE.is("edge", net.ask().edge(level, e, side), due.edges.get(e)[side]);
        }
        DUE.is("edge, one more", net.ask().edge(level, due.edges.size(), 0), -101);
    }

    private static void plates(Fresh net, PlainSkins.Level due, int level) {
        for (int f = 0; f < due.plates.size(); f++) {
            int[] ring = due.plates.get(f);
            DUE.is("size", net.ask().size(level, f), ring.length);
            for (int k = 0; k < ring.length; k++) DUE.is("ring", net.ask().ring(level, f, k), ring[k]);
            DUE.is("ring, fewer", net.ask().ring(level, f, ring.length), -1);
        }
        DUE.is("size, one more", net.ask().size(level, due.plates.size()), -101);
    }

    private static void measures(Fresh net, PlainSkins p, int level) {
        DUE.is("room", net.ask().room(level), p.room(level));
        for (int axis = 0; axis < 3; axis++) {
            DUE.is("least", net.ask().box(level, axis, 0), p.box(level, axis, 0));
            DUE.is("greatest", net.ask().box(level, axis, 1), p.box(level, axis, 1));
            DUE.is("cut", net.ask().cut(level, axis, 500), p.cut(level, axis, 500));
            DUE.is("middle", net.ask().middle(level, 13, axis), p.middle(level, 13, axis));
            DUE.is("middle of the last", net.ask().middle(level, p.many(level, 2) - 1, axis),
                p.middle(level, p.many(level, 2) - 1, axis));
        }
        for (int what = 0; what < 6; what++) DUE.is("many " + what, net.ask().many(level, what), p.many(level, what));
        DUE.is("near", net.ask().near(level, -1, 1, 70000), p.near(level, -1, 1, 70000));
    }

    /** "An object is used for at most 512 calls": the last of them is answered like any other. */
    private static void lastCalls() {
        MidSkins m = greatestMoved();
        long before = m.digest();
        int spent = Greatest.SPENT + 41;
        for (int v = 1; spent < Fresh.MOST_CALLS - 4; v = -v) {
            DUE.is("place", m.place(13, 2, v), spent == Greatest.SPENT + 41 ? 71 * 13 : -v);
            DUE.holds("another digest", m.digest() != before);
            spent += 2;
        }
        m.place(13, 2, 71 * 13);
        spent++;
        while (spent < Fresh.MOST_CALLS - 1) {
            DUE.is("near the end", m.room(0), greatestMoved().room(0));
            spent++;
        }
        DUE.is("the 512th call", m.digest(), before);
    }
}
