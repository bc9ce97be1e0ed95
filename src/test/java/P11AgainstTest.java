/** Promise 11: against. */
public final class P11AgainstTest {
    private static final Due due = new Due();
    private static final Refusals refusals = new Refusals(due);

    /** WET comes from DRY by a pedal that holds it, so that it is just the one wanted. */
    private static void ask(int want, int wire, long dry, long wet) {
        PedalBoard x = new PedalBoard();
        Signals.put(x, wire, dry);
        Signals.pedal(x, wire, Mirror.compare(wire, wet, dry) < 0 ? Signals.AT_MOST : Signals.AT_LEAST, wet);
        x.play(wire, 1);
        due.is(wet, "WET", () -> x.code(wire, 1));
        due.is(want, "against on wire " + wire + ", DRY " + dry + ", WET " + wet, () -> x.against(wire));
    }

    private static void bothWays(int wire, long less, long greater) {
        ask(-1, wire, greater, less);
        ask(1, wire, less, greater);
        ask(0, wire, less, less);
        ask(0, wire, greater, greater);
    }

    private static void ordinary() {
        bothWays(0, 1, 2);
        bothWays(0, -2, -1);
        bothWays(0, -1, 1);
        bothWays(0, Integer.MIN_VALUE, 0);
        bothWays(0, Integer.MIN_VALUE, Integer.MAX_VALUE);
        bothWays(1, 1, 1L << 40);
        bothWays(1, Long.MIN_VALUE, 0);
        bothWays(1, Long.MIN_VALUE, Long.MAX_VALUE);
        bothWays(2, Signals.f(1f), Signals.f(2f));
        bothWays(2, Signals.f(-2f), Signals.f(-1f));
        bothWays(2, Signals.f(-2f), Signals.f(1f));
        bothWays(2, Signals.f(-Float.MIN_VALUE), Signals.f(0f));
        bothWays(2, Signals.f(-0f), Signals.f(Float.MIN_VALUE));
        bothWays(2, Signals.f(Float.NEGATIVE_INFINITY), Signals.f(Float.POSITIVE_INFINITY));
        bothWays(3, Signals.d(1d), Signals.d(2d));
        bothWays(3, Signals.d(-2d), Signals.d(-1d));
        bothWays(3, Signals.d(-2d), Signals.d(1d));
        bothWays(3, Signals.d(-Double.MIN_VALUE), Signals.d(-0d));
        bothWays(3, Signals.d(0d), Signals.d(Double.MIN_VALUE));
        bothWays(3, Signals.d(Double.MAX_VALUE), Signals.d(Double.POSITIVE_INFINITY));
    }

    private static void unlikeZeros() {
        ask(2, 2, Signals.f(0f), Signals.f(-0f));
        ask(2, 2, Signals.f(-0f), Signals.f(0f));
        ask(2, 3, Signals.d(0d), Signals.d(-0d));
        ask(2, 3, Signals.d(-0d), Signals.d(0d));
        ask(0, 2, Signals.f(-0f), Signals.f(-0f));
        ask(0, 3, Signals.d(-0d), Signals.d(-0d));
    }

    public static void main(String[] args) {
        ordinary();
        unlikeZeros();
        for (int wire : Signals.NO_WIRES) {
            refusals.illegalArgument("against of wire " + wire, x -> x.against(wire));
        }
        due.end();
    }
}
