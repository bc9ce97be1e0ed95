/** Promise 13: recall. */
public final class P13RecallTest {
    private static final Due due = new Due();
    private static final Refusals refusals = new Refusals(due);

    private static void ordinary() {
        for (int i = 0; i < 4; i++) {
            int wire = i;
            PedalBoard x = Snapshot.playedBoard();
            long dry = x.code(wire, 0);
            long wet = x.code(wire, 1);
            due.is(1, "recall", () -> x.recall(wire, 0));
            due.is(1, "pedals", () -> x.about(wire, 0));
            due.is(1, "pedals that are on", () -> x.about(wire, 1));
            due.is(0, "lights", () -> x.about(wire, 2));
            due.is(2, "ROUNDS", () -> x.about(wire, 3));
            due.illegalState("trace", () -> x.trace(wire, 0));
            due.is(dry, "DRY", () -> x.code(wire, 0));
            due.is(wet, "WET", () -> x.code(wire, 1));
            due.is(wet, "PEAK", () -> x.code(wire, 2));
            due.is(1, "play: RECTIFY alone", () -> x.play(wire, 1));
            due.is(Mirror.through(wire, Signals.RECTIFY, 0, wet), "WET", () -> x.code(wire, 1));
            due.is(3, "another wire's pedals", () -> x.about((wire + 1) % 4, 0));
        }
    }

    private static void emptyPreset() {
        for (int i = 0; i < 4; i++) {
            int wire = i;
            PedalBoard x = Snapshot.playedBoard();
            due.is(0, "recall of an empty preset", () -> x.recall(wire, 3));
            due.is(0, "pedals", () -> x.about(wire, 0));
            due.illegalArgument("trace", () -> x.trace(wire, 0));
            due.is(0, "play", () -> x.play(wire, 1));
            due.is(0, "the place of a new pedal", () -> x.pedal(wire, 0, 0, 0));
            due.is(1, "pedals that are on", () -> x.about(wire, 1));
        }
    }

    private static void presetStaysAsItIs() {
        for (int i = 0; i < 4; i++) {
            int wire = i;
            PedalBoard x = new PedalBoard();
            Signals.pedal(x, wire, Signals.AT_LEAST, 9);
            Signals.pedal(x, wire, Signals.FLIP, 8);
            x.tap(wire, 1);
            x.save(wire, 3);
            x.recall(wire, 3);
            Signals.turn(x, wire, 0, 1);
            Signals.turn(x, wire, 1, 1);
            x.tap(wire, 0);
            x.tap(wire, 1);
            x.swap(wire, 0, 1);
            x.tap(wire, 0);
            x.tap(wire, 1);
            x.pedal(wire, 0, 0, 0);
            due.is(2, "recall again", () -> x.recall(wire, 3));
            due.is(1, "pedals that are on", () -> x.about(wire, 1));
            due.is(false, "the first knob is that of the preset", () -> Signals.turn(x, wire, 0, 9));
            due.is(false, "the second knob is that of the preset", () -> Signals.turn(x, wire, 1, 8));
            due.is(true, "the second one was off", () -> x.tap(wire, 1));
        }
    }

    private static void wrong() {
        for (int wire : Signals.NO_WIRES) {
            refusals.illegalArgument("recall on wire " + wire, x -> x.recall(wire, 0));
        }
        for (int i = 0; i < 4; i++) {
            int wire = i;
            for (int preset : new int[] {-1, 4, 5, Integer.MIN_VALUE, Integer.MAX_VALUE}) {
                refusals.illegalArgument("recall of preset " + preset, x -> x.recall(wire, preset));
            }
        }
    }

    public static void main(String[] args) {
        ordinary();
        emptyPreset();
        presetStaysAsItIs();
        wrong();
        due.end();
    }
}
