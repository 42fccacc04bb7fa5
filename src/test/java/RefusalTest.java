/**
 * "Of several the first as a call tells them": each call with each set of reasons to refuse it at once.
 * A reason is a bit of a mask, in the order of the call's promise; 'high' says on which side a number is wrong.
 */
public final class RefusalTest {
    private static final Due DUE = new Due();
    private static final int UNKNOWN = MidSkins.UNKNOWN;
    private static final int OUTSIDE = MidSkins.OUTSIDE;
    private static final int STATE = MidSkins.STATE;
    private static final int FULL = MidSkins.FULL;
    private static final int NULL = -11;
    private static final int INDEX = -12;
    private static final int SIZE = -13;
    private static final int CAST = -14;
    private static final int FAR_UNKNOWN = -2000000001;
    private static final int FAR_OUTSIDE = -2000000002;
    private static final int FAR_STATE = -2000000003;

    public static void main(String[] args) {
        for (int high = 0; high <= 1; high++) {
            row(high);
            put(high);
            corner(high);
            place(high);
            face(high);
            many(high);
            at(high);
            edge(high);
            size(high);
            ring(high);
            middle(high);
            box(high);
            room(high);
            cut(high);
            near(high);
            move(high);
        }
        DUE.end();
    }

    private static boolean has(int mask, int reason) {
        return (mask >> reason & 1) != 0;
    }

    /** The first reason's answer; the last answer is due without any. */
    private static long first(int mask, long... told) {
        for (int reason = 0; reason < told.length - 1; reason++) if (has(mask, reason)) return told[reason];
        return told[told.length - 1];
    }

    private static int pick(boolean wrong, int high, int low, int above, int fitting) {
        return !wrong ? fitting : high == 0 ? low : above;
    }

    private static int level(int mask, int high) {
        return pick(has(mask, 0), high, -1, 4, 1);
    }

    /** Corners 0 to 5 and plates 0 to 7 at level 1, edges 0 to 11; or a fault. */
    private static MidSkins net(boolean faulty) {
        return faulty ? Nets.faulty() : Nets.tetrahedron();
    }

    private static void row(int high) {
        for (int mask = 0; mask < 8; mask++) {
            if (has(mask, 1) && has(mask, 2)) continue;
            int lane = pick(has(mask, 0), high, -1, 3, 1);
            int n = has(mask, 1) ? 9 : has(mask, 2) ? -1 : 8;
            DUE.is("row, " + mask, new MidSkins().row(lane, n), first(mask, OUTSIDE, OUTSIDE, SIZE, 8));
        }
    }

    private static void put(int high) {
        for (int mask = 0; mask < 16; mask++) {
            MidSkins m = new MidSkins();
            m.row(1, 4);
            if (has(mask, 1)) m.lose();
            int lane = has(mask, 0) ? pick(true, high, -1, 3, 0) : pick(has(mask, 2), high, 0, 2, 1);
            int i = pick(has(mask, 3), high, -1, 4, 3);
            DUE.is("put, " + mask, m.put(lane, i, 5), first(mask, OUTSIDE, NULL, CAST, INDEX, 1));
        }
    }

    private static void corner(int high) {
        for (int mask = 0; mask < 16; mask++) {
            MidSkins m = new MidSkins();
            int before = has(mask, 3) ? 14 : 13;
            m.row(2, 3);
            for (int c = 0; c < before; c++) m.corner();
            m.row(2, has(mask, 1) ? 2 : 3);
            m.put(2, 1, pick(has(mask, 2), high, -1001, 1001, 1000));
            if (has(mask, 0)) m.lose();
            DUE.is("corner, " + mask, m.corner(), first(mask, NULL, INDEX, OUTSIDE, FULL, 13));
        }
    }

    private static void place(int high) {
        for (int mask = 0; mask < 8; mask++) {
            int c = pick(has(mask, 0), high, -1, 4, 3);
            int axis = pick(has(mask, 1), high, -1, 3, 2);
            int v = pick(has(mask, 2), high, -1001, 1001, -1000);
            DUE.is("place, " + mask, Nets.tetrahedron().place(c, axis, v), first(mask, UNKNOWN, UNKNOWN, OUTSIDE, 100));
        }
    }

    private static void face(int high) {
        for (int mask = 0; mask < 32; mask++) {
            MidSkins m = new MidSkins();
            int before = has(mask, 4) ? 14 : 13;
            m.row(2, 3);
            for (int c = 0; c < 6; c++) m.corner();
            for (int f = 0; f < before; f++) m.face(3);
            int fitting = high == 0 ? 3 : 6;
            m.row(2, has(mask, 2) ? 1 : fitting);
            m.put(2, 0, pick(has(mask, 3), high, -1, 6, 5));
            if (has(mask, 1)) m.lose();
            int n = pick(has(mask, 0), high, 2, 7, fitting);
            DUE.is("face, " + mask, m.face(n), first(mask, OUTSIDE, NULL, INDEX, UNKNOWN, FULL, 14));
        }
    }

    private static void many(int high) {
        for (int mask = 0; mask < 8; mask++) {
            int what = pick(has(mask, 1), high, -1, 6, 0);
            long got = net(has(mask, 2)).many(level(mask, high), what);
            DUE.is("many, " + mask, got, first(mask, UNKNOWN, OUTSIDE, STATE, 6));
        }
    }

    private static void at(int high) {
        for (int mask = 0; mask < 16; mask++) {
            int axis = pick(has(mask, 1), high, -1, 3, 1);
            int c = pick(has(mask, 3), high, -1, 6, 5);
            long got = net(has(mask, 2)).at(level(mask, high), c, axis);
            DUE.is("at, " + mask, got, first(mask, FAR_UNKNOWN, FAR_UNKNOWN, FAR_STATE, FAR_UNKNOWN, 100));
        }
    }

    private static void edge(int high) {
        for (int mask = 0; mask < 16; mask++) {
            int side = pick(has(mask, 1), high, -1, 2, 1);
            int e = pick(has(mask, 3), high, -1, 12, 11);
            long got = net(has(mask, 2)).edge(level(mask, high), e, side);
            DUE.is("edge, " + mask, got, first(mask, UNKNOWN, OUTSIDE, STATE, UNKNOWN, 1));
        }
    }

    private static void size(int high) {
        for (int mask = 0; mask < 8; mask++) {
            int f = pick(has(mask, 2), high, -1, 8, 7);
            long got = net(has(mask, 1)).size(level(mask, high), f);
            DUE.is("size, " + mask, got, first(mask, UNKNOWN, STATE, UNKNOWN, 3));
        }
    }

    /** That a plate has fewer corners is told behind all refusals. */
    private static void ring(int high) {
        for (int mask = 0; mask < 16; mask++) {
            int f = pick(has(mask, 2), high, -1, 8, 7);
            int k = pick(has(mask, 3), high, -1, 3, 1);
            long got = net(has(mask, 1)).ring(level(mask, high), f, k);
            DUE.is("ring, " + mask, got, first(mask, UNKNOWN, STATE, UNKNOWN, MidSkins.NONE, 5));
        }
    }

    private static void middle(int high) {
        for (int mask = 0; mask < 16; mask++) {
            int axis = pick(has(mask, 1), high, -1, 3, 0);
            int f = pick(has(mask, 3), high, -1, 8, 7);
            long got = net(has(mask, 2)).middle(level(mask, high), f, axis);
            DUE.is("middle, " + mask, got, first(mask, FAR_UNKNOWN, FAR_UNKNOWN, FAR_STATE, FAR_UNKNOWN, 100));
        }
    }

    private static void box(int high) {
        for (int mask = 0; mask < 16; mask++) {
            int axis = pick(has(mask, 1), high, -1, 3, 2);
            int side = pick(has(mask, 2), high, -1, 2, 1);
            long got = net(has(mask, 3)).box(level(mask, high), axis, side);
            DUE.is("box, " + mask, got, first(mask, FAR_UNKNOWN, FAR_UNKNOWN, FAR_OUTSIDE, FAR_STATE, 100));
        }
    }

    private static void room(int high) {
        for (int mask = 0; mask < 4; mask++) {
            long got = net(has(mask, 1)).room(level(mask, high));
            DUE.is("room, " + mask, got, first(mask, UNKNOWN, STATE, 4000000));
        }
    }

    private static void cut(int high) {
        for (int mask = 0; mask < 8; mask++) {
            int axis = pick(has(mask, 1), high, -1, 3, 2);
            long got = net(has(mask, 2)).cut(level(mask, high), axis, 50);
            DUE.is("cut, " + mask, got, first(mask, UNKNOWN, UNKNOWN, STATE, 6));
        }
    }

    private static void near(int high) {
        for (int mask = 0; mask < 32; mask++) {
            int x = pick(has(mask, 1), high, -100001, 100001, -100000);
            int y = pick(has(mask, 2), high, -100001, 100001, -100000);
            int z = pick(has(mask, 3), high, -100001, 100001, 100000);
            long got = net(has(mask, 4)).near(level(mask, high), x, y, z);
            DUE.is("near, " + mask, got, first(mask, UNKNOWN, OUTSIDE, OUTSIDE, OUTSIDE, STATE, 4));
        }
    }

    private static void move(int high) {
        for (int mask = 0; mask < 64; mask++) {
            MidSkins m = new MidSkins();
            int before = has(mask, 5) ? 40 : 39;
            for (int c = 0; c < before; c++) m.move(1, c, 1, 1, 1);
            int level = pick(has(mask, 0), high, 0, 4, 2);
            int c = pick(has(mask, 1), high, -1, 1001, 1000);
            int x = pick(has(mask, 2), high, -1001, 1001, 1000);
            int y = pick(has(mask, 3), high, -1001, 1001, -1000);
            int z = pick(has(mask, 4), high, -1001, 1001, 0);
            long due = first(mask, UNKNOWN, UNKNOWN, OUTSIDE, OUTSIDE, OUTSIDE, FULL, 40);
            DUE.is("move, " + mask, m.move(level, c, x, y, z), due);
        }
    }
}
