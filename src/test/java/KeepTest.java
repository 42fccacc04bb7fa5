import java.util.function.Supplier;
import java.util.function.ToLongFunction;

/**
 * "what is refused or has a CAUSE changes nothing but cause()": of two objects made alike one is asked
 * what is refused, and then all that can be seen of both is held against each other.
 */
public final class KeepTest {
    private static final Due DUE = new Due();
    private static final int FAR_UNKNOWN = -2000000001;
    private static final int FAR_OUTSIDE = -2000000002;
    private static final int FAR_STATE = -2000000003;

    public static void main(String[] args) {
        rowKeeps();
        putKeeps();
        loseKeeps();
        cornerKeeps();
        placeKeeps();
        faceKeeps();
        undoAndTurnKeep();
        levelsKeep();
        moveKeeps();
        toldKeeps();
        goodQuestionsKeep();
        DUE.end();
    }

    /** An octahedron with moves, all its levels made already, and a row of small bytes. */
    private static MidSkins sound() {
        MidSkins m = Nets.octahedron(90);
        m.move(1, 3, 5, 0, -7);
        m.move(2, 5, 1, 2, 3);
        m.move(3, 47, -1000, 0, 1000);
        m.move(1, 900, 8, 8, 8);
        for (int level = 0; level <= 3; level++) m.room(level);
        Nets.hand(m, 0, 3, 1, 4, 0, 5, 2);
        return m;
    }

    private static MidSkins faulty() {
        MidSkins m = sound();
        m.undo();
        m.fault(0);
        return m;
    }

    private static MidSkins lost() {
        MidSkins m = sound();
        m.lose();
        return m;
    }

    private static MidSkins handed(int lane, int... numbers) {
        MidSkins m = sound();
        Nets.hand(m, lane, numbers);
        return m;
    }

    private static MidSkins fullOfMoves() {
        MidSkins m = sound();
        for (int c = 100; c < 136; c++) m.move(2, c, c, 0, -c);
        return m;
    }

    private static void keeps(String call, Supplier<MidSkins> maker, long due, ToLongFunction<MidSkins> asked) {
        for (int before : new int[] {0, 3}) {
            MidSkins calm = maker.get();
            MidSkins m = maker.get();
            if (before == 3) m.row(0, -1);
            DUE.is(call, asked.applyAsLong(m), due);
            boolean hasCause = due <= -11 && due >= -14;
            DUE.is(call + ": cause", m.cause(), hasCause ? -10 - due : before);
            alike(call, m, calm);
        }
    }

    private static void alike(String call, MidSkins m, MidSkins calm) {
        long[] got = Look.at(m);
        long[] want = Look.at(calm);
        for (int k = 0; k < want.length; k++) DUE.is(call + ": look " + k, got[k], want[k]);
    }

    private static void rowKeeps() {
        for (int lane = 0; lane <= 2; lane++) {
            int of = lane;
            keeps("row: n 9", KeepTest::sound, -102, m -> m.row(of, 9));
            keeps("row: n -1", KeepTest::sound, -13, m -> m.row(of, -1));
            keeps("row: n least", KeepTest::lost, -13, m -> m.row(of, Integer.MIN_VALUE));
            keeps("row: n 9", KeepTest::lost, -102, m -> m.row(of, 9));
        }
        keeps("row: lane 3", KeepTest::sound, -102, m -> m.row(3, 6));
        keeps("row: lane -1", KeepTest::sound, -102, m -> m.row(-1, 0));
        keeps("row: lane 3, n -1", KeepTest::sound, -102, m -> m.row(3, -1));
    }

    private static void putKeeps() {
        keeps("put: lane 3", KeepTest::sound, -102, m -> m.put(3, 0, 1));
        keeps("put: lane -1", KeepTest::sound, -102, m -> m.put(-1, 0, 1));
        for (int i = 0; i < 6; i++) {
            int at = i;
            keeps("put: short", KeepTest::sound, -14, m -> m.put(1, at, 1));
            keeps("put: int", KeepTest::sound, -14, m -> m.put(2, at, 1));
            keeps("put: lost", KeepTest::lost, -11, m -> m.put(0, at, 1));
        }
        keeps("put: -1", KeepTest::sound, -12, m -> m.put(0, -1, 1));
        keeps("put: 6 of 6", KeepTest::sound, -12, m -> m.put(0, 6, 1));
        keeps("put: into none", () -> handed(0), -12, m -> m.put(0, 0, 1));
    }

    private static void loseKeeps() {
        keeps("lose", KeepTest::lost, -11, m -> m.lose());
        keeps("lose, new", MidSkins::new, -11, m -> m.lose());
    }

    private static void cornerKeeps() {
        keeps("corner: lost", KeepTest::lost, -11, m -> m.corner());
        keeps("corner: short", () -> handed(0, 1, 2), -12, m -> m.corner());
        keeps("corner: none", () -> handed(2), -12, m -> m.corner());
        keeps("corner: x", () -> handed(2, 1001, 0, 0), -102, m -> m.corner());
        keeps("corner: y", () -> handed(2, 0, -1001, 0), -102, m -> m.corner());
        keeps("corner: z", () -> handed(1, 0, 0, 1001), -102, m -> m.corner());
        keeps("corner: full", Greatest::net, -104, m -> m.corner());
        keeps("corner, new", MidSkins::new, -11, m -> m.corner());
    }

    private static void placeKeeps() {
        keeps("place: c", KeepTest::sound, -101, m -> m.place(6, 0, 1));
        keeps("place: c -1", KeepTest::sound, -101, m -> m.place(-1, 0, 1));
        keeps("place: axis", KeepTest::sound, -101, m -> m.place(0, 3, 1));
        keeps("place: axis -1", KeepTest::sound, -101, m -> m.place(1, -1, 1));
        keeps("place: v", KeepTest::sound, -102, m -> m.place(5, 2, 1001));
        keeps("place: v", KeepTest::faulty, -102, m -> m.place(0, 0, -1001));
    }

    private static void faceKeeps() {
        keeps("face: 2", KeepTest::sound, -102, m -> m.face(2));
        keeps("face: 7", KeepTest::sound, -102, m -> m.face(7));
        keeps("face: lost", KeepTest::lost, -11, m -> m.face(3));
        keeps("face: short", () -> handed(0, 0, 1, 2, 3, 4), -12, m -> m.face(6));
        keeps("face: first", () -> handed(0, 6, 1, 2), -101, m -> m.face(3));
        keeps("face: last", () -> handed(2, 0, 1, 2, 3, 4, -1), -101, m -> m.face(6));
        keeps("face: full", Greatest::net, -104, m -> m.face(6));
        keeps("face: full", Greatest::net, -104, m -> m.face(3));
        keeps("face, new", MidSkins::new, -11, m -> m.face(3));
    }

    private static void undoAndTurnKeep() {
        keeps("undo, new", MidSkins::new, -103, m -> m.undo());
        keeps("undo: none", () -> Nets.net(3, new int[0][]), -103, m -> m.undo());
        keeps("turn: 8", KeepTest::sound, -101, m -> m.turn(8));
        keeps("turn: -1", KeepTest::sound, -101, m -> m.turn(-1));
        keeps("turn: one that is gone", KeepTest::faulty, -101, m -> m.turn(7));
    }

    private static void levelsKeep() {
        keeps("many: level", KeepTest::sound, -101, m -> m.many(4, 0));
        keeps("many: what", KeepTest::sound, -102, m -> m.many(0, 6));
        keeps("many: fault", KeepTest::faulty, -103, m -> m.many(3, 0));
        keeps("at: level", KeepTest::sound, FAR_UNKNOWN, m -> m.at(-1, 0, 0));
        keeps("at: corner", KeepTest::sound, FAR_UNKNOWN, m -> m.at(3, 48, 0));
        keeps("at: fault", KeepTest::faulty, FAR_STATE, m -> m.at(3, 0, 0));
        keeps("edge: side", KeepTest::sound, -102, m -> m.edge(2, 0, 2));
        keeps("edge: e", KeepTest::sound, -101, m -> m.edge(2, 48, 0));
        keeps("edge: fault", KeepTest::faulty, -103, m -> m.edge(2, 0, 0));
        keeps("size: f", KeepTest::sound, -101, m -> m.size(1, 14));
        keeps("size: fault", KeepTest::faulty, -103, m -> m.size(1, 0));
        keeps("ring: f", KeepTest::sound, -101, m -> m.ring(1, 14, 0));
        keeps("ring: fewer", KeepTest::sound, -1, m -> m.ring(1, 0, 3));
        keeps("ring: fault", KeepTest::faulty, -103, m -> m.ring(1, 0, 0));
        keeps("middle: axis", KeepTest::sound, FAR_UNKNOWN, m -> m.middle(1, 0, 3));
        keeps("middle: fault", KeepTest::faulty, FAR_STATE, m -> m.middle(1, 0, 0));
        keeps("box: side", KeepTest::sound, FAR_OUTSIDE, m -> m.box(1, 0, 2));
        keeps("box: fault", KeepTest::faulty, FAR_STATE, m -> m.box(1, 0, 0));
        keeps("room: level", KeepTest::sound, -101, m -> m.room(4));
        keeps("room: fault", KeepTest::faulty, -103, m -> m.room(3));
        keeps("cut: axis", KeepTest::sound, -101, m -> m.cut(1, 3, 0));
        keeps("cut: fault", KeepTest::faulty, -103, m -> m.cut(1, 0, 0));
        keeps("near: x", KeepTest::sound, -102, m -> m.near(1, 100001, 0, 0));
        keeps("near: fault", KeepTest::faulty, -103, m -> m.near(1, 0, 0, 0));
    }

    private static void moveKeeps() {
        keeps("move: level 0", KeepTest::sound, -101, m -> m.move(0, 3, 1, 1, 1));
        keeps("move: level 4", KeepTest::sound, -101, m -> m.move(4, 3, 1, 1, 1));
        keeps("move to none: level 0", KeepTest::sound, -101, m -> m.move(0, 3, 0, 0, 0));
        keeps("move: c -1", KeepTest::sound, -101, m -> m.move(1, -1, 1, 1, 1));
        keeps("move: c 1001", KeepTest::sound, -101, m -> m.move(1, 1001, 1, 1, 1));
        for (int level = 1; level <= 3; level++) {
            int of = level;
            int[] told = {0, 3, 5, 47};
            keeps("move: x", KeepTest::sound, -102, m -> m.move(of, told[of], 1001, 1, 1));
            keeps("move: y", KeepTest::sound, -102, m -> m.move(of, told[of], 1, -1001, 1));
            keeps("move: z", KeepTest::sound, -102, m -> m.move(of, told[of], 0, 0, 1001));
            keeps("move: z, of a new one", KeepTest::sound, -102, m -> m.move(of, 0, 0, 0, -1001));
            keeps("move: full", KeepTest::fullOfMoves, -104, m -> m.move(of, 0, 1, 1, 1));
            keeps("move: full, at the end", KeepTest::fullOfMoves, -104, m -> m.move(of, 1000, 1, 1, 1));
        }
    }

    private static void toldKeeps() {
        for (int what : Ends.beyond(0, 1)) keeps("fault " + what, KeepTest::sound, -102, m -> m.fault(what));
        for (int what : Ends.beyond(0, 3)) keeps("count " + what, KeepTest::sound, -102, m -> m.count(what));
        keeps("moved: axis", KeepTest::sound, 0, m -> m.moved(1, 3, 3));
        keeps("moved: none", KeepTest::sound, 0, m -> m.moved(2, 3, 0));
    }

    /** What is asked and answered changes nothing either, whether the levels stood already or not. */
    private static void goodQuestionsKeep() {
        for (int turns = 0; turns <= 1; turns++) {
            MidSkins calm = sound();
            MidSkins m = sound();
            for (int f = 0; f < 8 * turns; f++) {
                calm.turn(f);
                m.turn(f);
            }
            for (int level = 3; level >= 0; level--) ask(m, level);
            for (int level = 0; level <= 3; level++) ask(m, level);
            m.fault(0);
            m.fault(1);
            m.moved(1, 3, 0);
            m.digest();
            DUE.is("questions: cause", m.cause(), 0);
            alike("questions", m, calm);
        }
    }

    private static void ask(MidSkins m, int level) {
        for (int what = 0; what < 6; what++) m.many(level, what);
        m.at(level, 0, 0);
        m.edge(level, 0, 0);
        m.size(level, 0);
        m.ring(level, 0, 0);
        m.middle(level, 0, 0);
        m.box(level, 0, 0);
        m.room(level);
        m.cut(level, 0, 0);
        m.near(level, 0, 0, 0);
    }
}
