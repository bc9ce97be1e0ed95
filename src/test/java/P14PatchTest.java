/** Promise 14: patch. */
public final class P14PatchTest {
    private static final Due due = new Due();
    private static final Refusals refusals = new Refusals(due);

    private static void everyCast() {
        PedalBoard x = new PedalBoard();
        for (int i = 0; i < 16; i++) {
            int from = i / 4;
            int to = i % 4;
            for (long code : Signals.codes(from)) {
                Signals.put(x, from, code);
                long want = Mirror.cast(from, to, code);
                due.is(want, "patch of " + code + " from " + from + " to " + to, () -> x.patch(from, to));
                due.is(want, "DRY there", () -> x.code(to, 0));
                due.is(want, "WET there", () -> x.code(to, 1));
            }
        }
    }

    private static void castsByHand() {
        cast(Signals.d(1e300), 3, 0, Integer.MAX_VALUE);
        cast(Signals.d(-1e300), 3, 1, Long.MIN_VALUE);
        cast(Signals.d(-2.9), 3, 0, -2);
        cast(Signals.f(Float.POSITIVE_INFINITY), 2, 1, Long.MAX_VALUE);
        cast(Signals.f(-0f), 2, 0, 0);
        cast(Signals.f(-0f), 2, 3, Signals.d(-0d));
        cast(Signals.d(-1e-60), 3, 2, Signals.f(-0f));
        cast(Signals.d(1e60), 3, 2, Signals.f(Float.POSITIVE_INFINITY));
        cast(0x1ffffffffL, 1, 0, -1);
        cast(16777217, 0, 2, Signals.f(16777216f));
        cast(16777219, 0, 2, Signals.f(16777220f));
        cast(Long.MIN_VALUE, 1, 2, Signals.f(-9223372036854775808f));
        cast(Long.MAX_VALUE, 1, 3, Signals.d(9223372036854775808d));
        cast(Signals.f(Float.MIN_VALUE), 2, 3, Signals.d(1.401298464324817e-45));
    }

    private static void cast(long code, int from, int to, long want) {
        PedalBoard x = new PedalBoard();
        Signals.put(x, from, code);
        due.is(want, "patch of " + code + " from " + from + " to " + to, () -> x.patch(from, to));
    }

    private static void asPutDoes() {
        for (int i = 0; i < 16; i++) {
            int from = i / 4;
            int to = i % 4;
            PedalBoard x = Snapshot.playedBoard();
            long wet = x.code(from, 1);
            long dry = x.code(from, 0);
            due.is(Mirror.cast(from, to, wet), "patch of WET, not of DRY", () -> x.patch(from, to));
            due.is(0, "ROUNDS there", () -> x.about(to, 3));
            due.illegalState("the greatest PEAK there", () -> x.code(to, 2));
            due.illegalState("the least PEAK there", () -> x.code(to, 3));
            due.illegalState("trace there", () -> x.trace(to, 0));
            due.is(0, "lights there", () -> x.about(to, 2));
            due.is(0, "against there", () -> x.against(to));
            due.is(3, "pedals there", () -> x.about(to, 0));
            if (from != to) {
                due.is(2, "ROUNDS where it came from", () -> x.about(from, 3));
                due.is(dry, "DRY where it came from", () -> x.code(from, 0));
                due.is(wet, "WET where it came from", () -> x.code(from, 1));
                due.is(wet, "trace where it came from", () -> x.trace(from, 2));
            }
        }
    }

    private static void wrong() {
        for (int wire : Signals.NO_WIRES) {
            for (int i = 0; i < 4; i++) {
                int other = i;
                refusals.illegalArgument("patch from wire " + wire, x -> x.patch(wire, other));
                refusals.illegalArgument("patch to wire " + wire, x -> x.patch(other, wire));
            }
            refusals.illegalArgument("patch from and to wire " + wire, x -> x.patch(wire, wire));
        }
    }

    public static void main(String[] args) {
        everyCast();
        castsByHand();
        asPutDoes();
        wrong();
        due.end();
    }
}
