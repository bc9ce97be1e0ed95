/** Promise 8: code. */
public final class P08CodeTest {
    private static final Due due = new Due();
    private static final Refusals refusals = new Refusals(due);

    private static void ordinary() {
        PedalBoard x = Snapshot.playedBoard();
        long[][] want = {
            {-7, -3, -3, -3},
            {-7, -3, -3, -3},
            {Signals.f(-7.5f), Signals.f(-3.25f), Signals.f(-3.25f), Signals.f(-3.25f)},
            {Signals.d(-7.5), Signals.d(-3.25), Signals.d(-3.25), Signals.d(-3.25)},
        };
        for (int i = 0; i < 16; i++) {
            int wire = i / 4;
            int which = i % 4;
            due.is(want[wire][which], "code " + which + " of wire " + wire, () -> x.code(wire, which));
        }
    }

    private static void peaksOf(int wire, long greatest, long least) {
        PedalBoard x = new PedalBoard();
        for (long first : new long[] {greatest, least}) {
            Signals.put(x, wire, first);
            due.illegalState("the greatest PEAK before a ROUND", () -> x.code(wire, 2));
            due.illegalState("the least PEAK before a ROUND", () -> x.code(wire, 3));
            x.play(wire, 1);
            due.is(first, "the greatest PEAK of one", () -> x.code(wire, 2));
            due.is(first, "the least PEAK of one", () -> x.code(wire, 3));
            Signals.pedal(x, wire, first == greatest ? Signals.AT_MOST : Signals.AT_LEAST, first == greatest ? least : greatest);
            x.play(wire, 1);
            due.is(greatest, "the greatest PEAK on wire " + wire, () -> x.code(wire, 2));
            due.is(least, "the least PEAK on wire " + wire, () -> x.code(wire, 3));
            x.recall(wire, 0);
            x.play(wire, 1);
            due.is(greatest, "the greatest PEAK later", () -> x.code(wire, 2));
            due.is(least, "the least PEAK later", () -> x.code(wire, 3));
        }
    }

    private static void peaks() {
        peaksOf(0, Integer.MAX_VALUE, Integer.MIN_VALUE);
        peaksOf(0, -1, -2);
        peaksOf(1, Long.MAX_VALUE, Long.MIN_VALUE);
        peaksOf(1, 1L << 40, 5);
        peaksOf(2, Signals.f(0f), Signals.f(-0f));
        peaksOf(2, Signals.f(-1f), Signals.f(-2f));
        peaksOf(2, Signals.f(2f), Signals.f(-3f));
        peaksOf(2, Signals.f(Float.POSITIVE_INFINITY), Signals.f(Float.NEGATIVE_INFINITY));
        peaksOf(3, Signals.d(0d), Signals.d(-0d));
        peaksOf(3, Signals.d(-1d), Signals.d(-2d));
        peaksOf(3, Signals.d(2d), Signals.d(-3d));
        peaksOf(3, Signals.d(-0d), Signals.d(-Double.MIN_VALUE));
    }

    private static void wrong() {
        for (int wire : Signals.NO_WIRES) {
            for (int which = -1; which <= 4; which++) {
                int what = which;
                refusals.illegalArgument("code " + what + " of wire " + wire, x -> x.code(wire, what));
            }
        }
        for (int i = 0; i < 4; i++) {
            int wire = i;
            for (int which : new int[] {-1, 4, 5, Integer.MIN_VALUE, Integer.MAX_VALUE}) {
                refusals.illegalArgument("code " + which, x -> x.code(wire, which));
                due.illegalArgument("code " + which + " of a new board", () -> new PedalBoard().code(wire, which));
            }
        }
    }

    public static void main(String[] args) {
        ordinary();
        peaks();
        wrong();
        due.end();
    }
}
