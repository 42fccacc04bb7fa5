/** Counts the answers that are not as due, and ends the program with 1 if there was one. */
final class Due {
    private static final int MOST_PRINTED = 40;

    private int asked = 0;
    private int wrong = 0;

    void is(String call, long got, long want) {
        asked++;
        if (got != want) {
            wrong++;
            if (wrong <= MOST_PRINTED) System.out.println(call + " answered " + got + ", due is " + want);
        }
    }

    void isText(String what, String got, String want) {
        holds(what + ": " + got + ", due is " + want, got.equals(want));
    }

    void holds(String what, boolean so) {
        is(what, so ? 1 : 0, 1);
    }

    int asked() {
        return asked;
    }

    void end() {
        System.out.println(asked + " answers, " + wrong + " not as due");
        if (wrong != 0 || asked == 0) System.exit(1);
    }
}
