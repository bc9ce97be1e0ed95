/** Promise 5: tap. */
public final class P05TapTest {
    private static final Due due = new Due();
    private static final Refusals refusals = new Refusals(due);

    private static void ordinary() {
        for (int i = 0; i < 4; i++) {
            int wire = i;
            PedalBoard x = Snapshot.playedBoard();
            long out = x.trace(wire, 2);
            due.is(false, "tap on wire " + wire, () -> x.tap(wire, 2));
            due.is(2, "pedals that are on", () -> x.about(wire, 1));
            due.is(3, "pedals", () -> x.about(wire, 0));
            due.is(out, "trace behind tap: it stays", () -> x.trace(wire, 2));
            due.is(true, "light behind tap: it stays", () -> x.light(wire, 2));
            x.play(wire, 1);
            due.is(false, "light of a pedal that is off", () -> x.light(wire, 2));
            due.is(true, "what comes out of it is what comes in", () -> x.trace(wire, 1) == x.trace(wire, 2));
            due.is(false, "tap of another", () -> x.tap(wire, 0));
            due.is(1, "pedals that are on", () -> x.about(wire, 1));
            due.is(true, "tap again on wire " + wire, () -> x.tap(wire, 2));
            due.is(2, "pedals that are on", () -> x.about(wire, 1));
            x.play(wire, 1);
            due.is(true, "light of the pedal that is on again", () -> x.light(wire, 2));
        }
    }

    private static void wrong() {
        for (int wire : Signals.NO_WIRES) {
            refusals.illegalArgument("tap on wire " + wire, x -> x.tap(wire, 0));
        }
        for (int i = 0; i < 4; i++) {
            int wire = i;
            for (int place : new int[] {-1, 3, 12, Integer.MIN_VALUE, Integer.MAX_VALUE}) {
                refusals.illegalArgument("tap of place " + place, x -> x.tap(wire, place));
            }
            due.illegalArgument("tap without pedals", () -> new PedalBoard().tap(wire, 0));
        }
    }

    public static void main(String[] args) {
        ordinary();
        wrong();
        due.end();
    }
}
