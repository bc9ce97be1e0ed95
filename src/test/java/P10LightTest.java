/** Promise 10: light. */
public final class P10LightTest {
    private static final Due due = new Due();

    private static void ordinary() {
        for (int i = 0; i < 4; i++) {
            int wire = i;
            PedalBoard x = new PedalBoard();
            Signals.put(x, wire, wire < 2 ? -7 : wire == 2 ? Signals.f(-7f) : Signals.d(-7d));
            x.pedal(wire, Signals.RECTIFY, 0, 0);
            x.pedal(wire, Signals.AT_LEAST, 0, 0);
            x.pedal(wire, Signals.FLIP, 0, 0);
            due.is(false, "light before a ROUND", () -> x.light(wire, 0));
            x.play(wire, 1);
            due.is(true, "light of RECTIFY", () -> x.light(wire, 0));
            due.is(false, "light of AT LEAST 0", () -> x.light(wire, 1));
            due.is(true, "light of FLIP", () -> x.light(wire, 2));
            x.tap(wire, 2);
            due.is(true, "light of FLIP, off now, as of the latest ROUND", () -> x.light(wire, 2));
            x.play(wire, 1);
            due.is(false, "light of FLIP that was off", () -> x.light(wire, 2));
            due.is(true, "light of RECTIFY", () -> x.light(wire, 0));
            x.play(wire, 1);
            due.is(false, "light of RECTIFY in the latest ROUND, not in the ones before", () -> x.light(wire, 0));
        }
    }

    private static void ofTheCode() {
        PedalBoard x = new PedalBoard();
        x.pedal(2, Signals.FLIP, 0, 0);
        x.pedal(3, Signals.FLIP, 0, 0);
        x.play(2, 1);
        x.play(3, 1);
        due.is(true, "light of 0 to -0, float", () -> x.light(2, 0));
        due.is(true, "light of 0 to -0, double", () -> x.light(3, 0));
        x.put(0, 0, 0);
        x.pedal(0, Signals.FLIP, 0, 0);
        x.play(0, 1);
        due.is(false, "light of a flipped int 0", () -> x.light(0, 0));
    }

    private static void withoutTrace() {
        for (int i = 0; i < 4; i++) {
            int wire = i;
            PedalBoard x = Snapshot.playedBoard();
            due.is(true, "light", () -> x.light(wire, 2));
            x.swap(wire, 2, 2);
            due.is(false, "light behind swap", () -> x.light(wire, 2));
            x.play(wire, 1);
            due.is(true, "light behind play", () -> x.light(wire, 2));
            x.save(wire, 1);
            x.recall(wire, 1);
            due.is(false, "light behind recall", () -> x.light(wire, 2));
            x.play(wire, 1);
            x.put(wire, 0, 0);
            due.is(false, "light behind put", () -> x.light(wire, 2));
        }
    }

    private static void ofNone() {
        PedalBoard x = Snapshot.playedBoard();
        for (int wire : Signals.NO_WIRES) {
            due.is(false, "light of wire " + wire, () -> x.light(wire, 2));
        }
        for (int i = 0; i < 4; i++) {
            int wire = i;
            for (int place : new int[] {-1, 3, 11, 12, Integer.MIN_VALUE, Integer.MAX_VALUE}) {
                due.is(false, "light of place " + place, () -> x.light(wire, place));
            }
        }
    }

    public static void main(String[] args) {
        ordinary();
        ofTheCode();
        withoutTrace();
        ofNone();
        due.end();
    }
}
