/** Promise 12: save. */
public final class P12SaveTest {
    private static final Due due = new Due();
    private static final Refusals refusals = new Refusals(due);

    private static void ordinary() {
        for (int i = 0; i < 4; i++) {
            int wire = i;
            PedalBoard x = Snapshot.playedBoard();
            String before = Snapshot.of(x);
            due.is(3, "save on wire " + wire, () -> x.save(wire, 1));
            due.is(before, "the board behind save", () -> Snapshot.of(x));
            due.is(0, "another preset stays empty", () -> x.recall(wire, 2));
            due.is(0, "save without pedals", () -> x.save(wire, 3));
            due.is(1, "the preset of before stays", () -> x.recall(wire, 0));
            due.is(3, "recall of what was saved", () -> x.recall(wire, 1));
            for (int j = 3; j < 12; j++) {
                x.pedal(wire, 0, 0, 0);
            }
            due.is(12, "save of 12 over what was there", () -> x.save(wire, 1));
            x.recall(wire, 3);
            due.is(12, "recall of 12", () -> x.recall(wire, 1));
            due.is(12, "pedals then", () -> x.about(wire, 0));
            x.recall(wire, 0);
            due.is(1, "save of fewer over 12", () -> x.save(wire, 1));
            due.is(1, "recall of fewer", () -> x.recall(wire, 1));
        }
    }

    private static void keptAsTheyWere() {
        for (int i = 0; i < 4; i++) {
            int wire = i;
            PedalBoard x = new PedalBoard();
            Signals.pedal(x, wire, Signals.AT_MOST, 6);
            Signals.pedal(x, wire, Signals.FLIP, 2);
            x.tap(wire, 1);
            x.save(wire, 2);
            Signals.turn(x, wire, 0, 7);
            x.tap(wire, 0);
            x.tap(wire, 1);
            x.swap(wire, 0, 1);
            x.tap(wire, 0);
            x.tap(wire, 1);
            x.pedal(wire, 0, 0, 0);
            x.save(wire, 1);
            due.is(2, "recall", () -> x.recall(wire, 2));
            due.is(1, "pedals that are on", () -> x.about(wire, 1));
            due.is(false, "turn of the first one to the knob that was saved", () -> Signals.turn(x, wire, 0, 6));
            due.is(false, "turn of the second one to the knob that was saved", () -> Signals.turn(x, wire, 1, 2));
            due.is(true, "tap of the second one, which was off", () -> x.tap(wire, 1));
            due.is(0, "another wire's preset", () -> x.recall((wire + 1) % 4, 2));
        }
    }

    private static void wrong() {
        for (int wire : Signals.NO_WIRES) {
            refusals.illegalArgument("save on wire " + wire, x -> x.save(wire, 0));
        }
        for (int i = 0; i < 4; i++) {
            int wire = i;
            for (int preset : new int[] {-1, 4, 5, Integer.MIN_VALUE, Integer.MAX_VALUE}) {
                refusals.illegalArgument("save in preset " + preset, x -> x.save(wire, preset));
            }
        }
    }

    public static void main(String[] args) {
        ordinary();
        keptAsTheyWere();
        wrong();
        due.end();
    }
}
