/** Runs of calls, drawn by a fixed rule, answered by MidSkins and by PlainSkins alike. */
public final class OracleTest {
    private static final Due DUE = new Due();
    private static final int RUNS = 400;
    /** No change but a new net spends more calls than this. */
    private static final int DEAREST_CHANGE = 16;
    private static final int DEAREST_NET = 14 * 5 + 14 * 8;

    private static final int[][] HEAWOOD = heawood();
    private static final int[][][] SEEDS = {Nets.TETRAHEDRON, Nets.CUBE, Nets.OCTAHEDRON, Nets.TORUS, HEAWOOD,
        Nets.PYRAMID, Nets.PRISM, Nets.HUB, Nets.APART, Nets.PINCHED, Nets.THIN};

    private static long state = 20261116L;

    public static void main(String[] args) {
        for (int run = 0; run < RUNS; run++) oneRun(run);
        DUE.end();
    }

    /** The net whose plates are the corners of TORUS: 14 corners, 7 rings of six. */
    private static int[][] heawood() {
        int[][] rings = new int[7][6];
        for (int c = 0; c < 7; c++) {
            int from = 0;
            while (!has(Nets.TORUS[from], c)) from++;
            for (int k = 0; k < 6; k++) {
                rings[c][k] = from;
                int before = 0;
                for (int i = 0; i < 3; i++) if (Nets.TORUS[from][(i + 1) % 3] == c) before = Nets.TORUS[from][i];
                int next = 0;
                while (!steps(Nets.TORUS[next], c, before)) next++;
                from = next;
            }
        }
        return rings;
    }

    private static boolean has(int[] ring, int c) {
        return ring[0] == c || ring[1] == c || ring[2] == c;
    }

    private static boolean steps(int[] ring, int a, int b) {
        for (int k = 0; k < 3; k++) if (ring[k] == a && ring[(k + 1) % 3] == b) return true;
        return false;
    }

    private static int draw(int n) {
        state = state * 6364136223846793005L + 1442695040888963407L;
        return (int) ((state >>> 33) % n);
    }

    private static int between(int low, int high) {
        return low + draw(high - low + 1);
    }

    /** Mostly small and fitting, now and then off by one or as far off as can be. */
    private static int argument(int most) {
        int kind = draw(20);
        if (kind == 0) return Integer.MIN_VALUE;
        if (kind == 1) return Integer.MAX_VALUE;
        if (kind == 2) return -1;
        if (kind == 3) return most + 1;
        return between(0, most);
    }

    private static int number(int most) {
        int kind = draw(30);
        if (kind == 0) return most + 1;
        if (kind == 1) return -most - 1;
        if (kind == 2) return Integer.MIN_VALUE;
        if (kind < 6) return draw(2) == 0 ? most : -most;
        return between(-most, most);
    }

    private static int[] shuffled(int n) {
        int[] order = new int[n];
        for (int i = 0; i < n; i++) order[i] = i;
        for (int i = n - 1; i > 0; i--) {
            int j = draw(i + 1);
            int kept = order[i];
            order[i] = order[j];
            order[j] = kept;
        }
        return order;
    }

    private static void build(MidSkins m, PlainSkins p) {
        int[][] rings = SEEDS[draw(SEEDS.length)];
        int corners = Nets.cornersOf(rings);
        for (int c = 0; c < corners; c++) {
            hand(m, p, 2, between(-1000, 1000), between(-50, 50), between(-1000, 1000));
            DUE.is("corner", m.corner(), p.corner());
        }
        int[] names = shuffled(corners);
        for (int f : shuffled(rings.length)) {
            int[] ring = rings[f];
            int start = draw(ring.length);
            int[] named = new int[ring.length];
            for (int k = 0; k < ring.length; k++) named[k] = names[ring[(start + k) % ring.length]];
            hand(m, p, draw(3), named);
            DUE.is("face", m.face(ring.length), p.face(ring.length));
        }
    }

    private static void hand(MidSkins m, PlainSkins p, int lane, int... numbers) {
        DUE.is("row", m.row(lane, numbers.length), p.row(lane, numbers.length));
        for (int i = 0; i < numbers.length; i++) DUE.is("put", m.put(lane, i, numbers[i]), p.put(lane, i, numbers[i]));
    }

    /** Ends with the 512th call; each answer that is looked at is one call. */
    private static void oneRun(int run) {
        MidSkins m = new MidSkins();
        PlainSkins p = new PlainSkins();
        int end = DUE.asked() + Fresh.MOST_CALLS;
        if (run % 8 != 0) build(m, p);
        while (DUE.asked() < end - 1) {
            int left = end - 1 - DUE.asked();
            if (draw(3) == 0 && left >= DEAREST_CHANGE) change(run, m, p, left);
            else ask(run, m, p);
        }
        DUE.is("run " + run + ": digest", m.digest(), p.digest());
    }

    private static void change(int run, MidSkins m, PlainSkins p, int left) {
        int a = argument(3);
        int b = argument(14);
        int c = argument(2);
        int v = number(1000);
        int w = draw(3) == 0 ? 0 : number(1000);
        String of = "run " + run + ": ";
        switch (draw(40)) {
            case 0: DUE.is(of + "row", m.row(c, b - 4), p.row(c, b - 4)); break;
            case 1: DUE.is(of + "put", m.put(c, a, v), p.put(c, a, v)); break;
            case 2: DUE.is(of + "lose", m.lose(), p.lose()); break;
            case 3: DUE.is(of + "corner", m.corner(), p.corner()); break;
            case 4: DUE.is(of + "face", m.face(a + 3), p.face(a + 3)); break;
            case 5: undoAndRedo(m, p); break;
            case 6: turnAll(m, p); break;
            case 7: if (draw(4) == 0) DUE.is(of + "clear", m.clear(), p.clear()); break;
            case 8: if (draw(4) == 0 && left >= DEAREST_NET) build(m, p); break;
            case 9: DUE.is(of + "turn", m.turn(b), p.turn(b)); break;
            case 10: case 11: case 12: case 13: case 14: case 15: case 16:
                DUE.is(of + "place", m.place(b, c, v), p.place(b, c, v)); break;
            default:
                int e = argument(draw(2) == 0 ? 50 : 1000);
                DUE.is(of + "move", m.move(a, e, v, w, w), p.move(a, e, v, w, w)); break;
        }
    }

    private static void undoAndRedo(MidSkins m, PlainSkins p) {
        if (p.plates.isEmpty()) {
            DUE.is("undo", m.undo(), p.undo());
            return;
        }
        int[] last = p.plates.get(p.plates.size() - 1);
        DUE.is("undo", m.undo(), p.undo());
        DUE.is("undo: fault", m.fault(0), p.fault(0));
        hand(m, p, draw(3), last);
        if (draw(4) != 0) DUE.is("redo", m.face(last.length), p.face(last.length));
    }

    private static void turnAll(MidSkins m, PlainSkins p) {
        for (int f = 0; f < p.plates.size(); f++) DUE.is("turn", m.turn(f), p.turn(f));
    }

    private static void ask(int run, MidSkins m, PlainSkins p) {
        int level = argument(3);
        int axis = argument(2);
        int side = argument(1);
        int v = number(draw(2) == 0 ? 20000 : 100000);
        String of = "run " + run + ": ";
        switch (draw(17)) {
            case 0: DUE.is(of + "fault", m.fault(side), p.fault(side)); break;
            case 1: int what = argument(5); DUE.is(of + "many", m.many(level, what), p.many(level, what)); break;
            case 2: case 3: int c = argument(170); DUE.is(of + "at", m.at(level, c, axis), p.at(level, c, axis)); break;
            case 4: int e = argument(100); DUE.is(of + "edge", m.edge(level, e, side), p.edge(level, e, side)); break;
            case 5: int f = argument(60); DUE.is(of + "size", m.size(level, f), p.size(level, f)); break;
            case 6: case 7: int g = argument(60); int k = argument(6);
                DUE.is(of + "ring", m.ring(level, g, k), p.ring(level, g, k)); break;
            case 8: int h = argument(60); DUE.is(of + "middle", m.middle(level, h, axis), p.middle(level, h, axis)); break;
            case 9: DUE.is(of + "box", m.box(level, axis, side), p.box(level, axis, side)); break;
            case 10: DUE.is(of + "room", m.room(level), p.room(level)); break;
            case 11: int at = number(3000); DUE.is(of + "cut", m.cut(level, axis, at), p.cut(level, axis, at)); break;
            case 12: int y = number(15000);
                DUE.is(of + "near", m.near(level, v, y, -y), p.near(level, v, y, -y)); break;
            case 13: int d = argument(1000); DUE.is(of + "moved", m.moved(level, d, axis), p.moved(level, d, axis)); break;
            case 14: DUE.is(of + "cause", m.cause(), p.cause()); break;
            case 15: DUE.is(of + "count", m.count(level), p.count(level)); break;
            default: DUE.is(of + "digest", m.digest(), p.digest()); break;
        }
    }
}
