import java.util.function.IntToLongFunction;

/** Asks a call with the last values that it takes and the first that it refuses, on either side. */
final class Ends {
    private Ends() { }

    static void are(Due due, String what, int low, int high, long refusal, IntToLongFunction call) {
        refused(due, what, low, high, refusal, call);
        for (int v : new int[] {low, high}) {
            due.holds(what + " " + v + " is taken", call.applyAsLong(v) != refusal);
        }
    }

    static void refused(Due due, String what, int low, int high, long refusal, IntToLongFunction call) {
        for (int v : beyond(low, high)) due.is(what + " " + v, call.applyAsLong(v), refusal);
    }

    static int[] beyond(int low, int high) {
        return new int[] {low - 1, high + 1, Integer.MIN_VALUE, Integer.MAX_VALUE};
    }
}
