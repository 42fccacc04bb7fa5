/** All that can be seen of an object but cause(). To see THE ROW too, it is used up: look at it last. */
final class Look {
    private static final int SEEN = 47;

    private final long[] seen = new long[SEEN];
    private int many = 0;

    private Look(MidSkins m) {
        told(m);
        row(m);
    }

    static long[] at(MidSkins m) {
        return new Look(m).seen;
    }

    private void add(long v) {
        seen[many++] = v;
    }

    private void told(MidSkins m) {
        for (int what = 0; what <= 3; what++) add(m.count(what));
        for (int what = 0; what <= 1; what++) add(m.fault(what));
        add(m.digest());
        for (int level = 0; level <= 3; level++) {
            for (int what = 0; what <= 2; what++) add(m.many(level, what));
            add(m.room(level));
        }
        for (int axis = 0; axis <= 2; axis++) add(m.middle(3, 0, axis));
    }

    /** Its numbers by CORNERS and a PLATE that are made of it; its LANE by what put() calls another one. */
    private void row(MidSkins m) {
        add(m.clear());
        for (int c = 0; c < 14; c++) add(m.corner());
        add(m.digest());
        add(m.face(6));
        add(m.digest());
        for (int lane = 0; lane <= 2; lane++) add(m.put(lane, -1, 0));
    }
}
