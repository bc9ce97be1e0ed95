/** Promise 6: swap. */
public final class P06SwapTest {
    private static final Due due = new Due();
    private static final Refusals refusals = new Refusals(due);

    private static void ordinary() {
        PedalBoard x = new PedalBoard();
        x.put(0, 0, -9);
        x.pedal(0, Signals.AT_MOST, 0, 5);
        x.pedal(0, Signals.RECTIFY, 0, 0);
        x.pedal(0, Signals.FLIP, 0, 0);
        x.play(0, 1);
        due.is(-9, "WET: at most 5, upright, flipped", () -> x.code(0, 1));
        due.is(true, "swap of unlike pedals", () -> x.swap(0, 0, 2));
        due.illegalState("trace behind swap", () -> x.trace(0, 0));
        due.is(false, "light behind swap", () -> x.light(0, 1));
        due.is(0, "lights behind swap", () -> x.about(0, 2));
        due.is(1, "ROUNDS behind swap", () -> x.about(0, 3));
        due.is(-9, "PEAK behind swap", () -> x.code(0, 2));
        x.play(0, 1);
        due.is(9, "what came out of the first one, FLIP", () -> x.trace(0, 0));
        due.is(9, "what came out of the second one, RECTIFY", () -> x.trace(0, 1));
        due.is(5, "what came out of the last one, AT MOST 5", () -> x.trace(0, 2));
        due.is(false, "the knob went along", () -> x.turn(0, 2, 0, 5));
    }

    private static void alike() {
        for (int i = 0; i < 4; i++) {
            int wire = i;
            PedalBoard x = Snapshot.playedBoard();
            due.is(false, "swap of a pedal with itself", () -> x.swap(wire, 1, 1));
            due.illegalState("trace behind swap with itself", () -> x.trace(wire, 1));
            PedalBoard y = new PedalBoard();
            Signals.pedal(y, wire, Signals.AT_LEAST, 6);
            Signals.pedal(y, wire, Signals.AT_LEAST, 6);
            y.play(wire, 1);
            due.is(false, "swap of alike pedals", () -> y.swap(wire, 1, 0));
            due.illegalState("trace behind swap of alike ones", () -> y.trace(wire, 1));
            y.tap(wire, 0);
            due.is(true, "swap of pedals of which one is on", () -> y.swap(wire, 0, 1));
            due.is(true, "the one that is off went along", () -> y.tap(wire, 1));
            due.is(false, "swap of alike pedals, tapped twice", () -> y.swap(wire, 1, 0));
            Signals.turn(y, wire, 1, 7);
            due.is(true, "swap of pedals with unlike knobs", () -> y.swap(wire, 1, 0));
            due.is(false, "the knob went along", () -> Signals.turn(y, wire, 0, 7));
            due.is(false, "the other knob too", () -> Signals.turn(y, wire, 1, 6));
        }
        PedalBoard z = new PedalBoard();
        z.pedal(2, Signals.RECTIFY, 0, 0);
        z.pedal(2, Signals.RECTIFY, 0, 0x80000000);
        due.is(true, "swap of knobs 0 and -0: unlike CODES", () -> z.swap(2, 0, 1));
        z.pedal(1, Signals.RECTIFY, 1, 0);
        z.pedal(1, Signals.RECTIFY, 2, 0);
        due.is(true, "swap of knobs with unlike upper bits", () -> z.swap(1, 0, 1));
        z.pedal(0, Signals.RECTIFY, 1, 0);
        z.pedal(0, Signals.FLIP, 2, 0);
        due.is(true, "swap of unlike kinds", () -> z.swap(0, 0, 1));
        z.pedal(0, Signals.FLIP, 9, 0);
        due.is(false, "swap of knobs with unlike upper bits that do not count", () -> z.swap(0, 0, 2));
    }

    private static void wrong() {
        for (int wire : Signals.NO_WIRES) {
            refusals.illegalArgument("swap on wire " + wire, x -> x.swap(wire, 0, 1));
        }
        for (int i = 0; i < 4; i++) {
            int wire = i;
            for (int place : new int[] {-1, 3, 12, Integer.MIN_VALUE, Integer.MAX_VALUE}) {
                refusals.illegalArgument("swap of place " + place, x -> x.swap(wire, place, 0));
                refusals.illegalArgument("swap with place " + place, x -> x.swap(wire, 0, place));
                refusals.illegalArgument("swap of place with itself " + place, x -> x.swap(wire, place, place));
            }
            due.illegalArgument("swap without pedals", () -> new PedalBoard().swap(wire, 0, 0));
        }
    }

    public static void main(String[] args) {
        ordinary();
        alike();
        wrong();
        due.end();
    }
}
