import java.util.function.Supplier;

/** An object for many questions, made anew ahead of its 513th call: what it answers then is free. */
final class Fresh {
    static final int MOST_CALLS = 512;

    private final Supplier<MidSkins> maker;
    private final int spentByMaker;
    private MidSkins object;
    private int left = 0;

    Fresh(Supplier<MidSkins> maker, int spentByMaker) {
        this.maker = maker;
        this.spentByMaker = spentByMaker;
    }

    /** The object for one call. */
    MidSkins ask() {
        if (left == 0) {
            object = maker.get();
            left = MOST_CALLS - spentByMaker;
        }
        left--;
        return object;
    }

    int[][] rings(int level) {
        int[][] rings = new int[ask().many(level, 2)][];
        for (int f = 0; f < rings.length; f++) {
            rings[f] = new int[ask().size(level, f)];
            for (int k = 0; k < rings[f].length; k++) rings[f][k] = ask().ring(level, f, k);
        }
        return rings;
    }
}
