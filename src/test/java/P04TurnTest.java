/** Promise 4: turn. */
public final class P04TurnTest {
    private static final Due due = new Due();
    private static final Refusals refusals = new Refusals(due);

    private static void ordinary() {
        for (int i = 0; i < 4; i++) {
            int wire = i;
            PedalBoard x = new PedalBoard();
            Signals.pedal(x, wire, Signals.AT_MOST, 1);
            Signals.pedal(x, wire, Signals.AT_MOST, 2);
            long last = 2;
            for (long code : Signals.codes(wire)) {
                boolean another = code != last;
                due.is(another, "turn to " + code + " on wire " + wire, () -> Signals.turn(x, wire, 1, code));
                due.is(false, "turn to " + code + " again on wire " + wire, () -> Signals.turn(x, wire, 1, code));
                last = code;
            }
            due.is(false, "turn of the other pedal to what it has", () -> Signals.turn(x, wire, 0, 1));
        }
    }

    private static void playsWithTheNewKnob() {
        PedalBoard x = new PedalBoard();
        x.put(1, 0, 100);
        x.pedal(1, Signals.AT_MOST, 0, 50);
        x.play(1, 1);
        due.is(true, "turn to 20", () -> x.turn(1, 0, 0, 20));
        due.is(50, "trace behind turn: it stays", () -> x.trace(1, 0));
        due.is(true, "light behind turn: it stays", () -> x.light(1, 0));
        due.is(50, "WET behind turn", () -> x.code(1, 1));
        due.is(1, "play", () -> x.play(1, 1));
        due.is(20, "WET behind play", () -> x.code(1, 1));
    }

    private static void wrong() {
        for (int wire : Signals.NO_WIRES) {
            refusals.illegalArgument("turn on wire " + wire, x -> x.turn(wire, 0, 0, 1));
        }
        for (int i = 0; i < 4; i++) {
            int wire = i;
            for (int place : new int[] {-1, 3, 4, 11, 12, Integer.MIN_VALUE, Integer.MAX_VALUE}) {
                refusals.illegalArgument("turn of place " + place, x -> x.turn(wire, place, 0, 1));
            }
            due.illegalArgument("turn without pedals", () -> new PedalBoard().turn(wire, 0, 0, 0));
        }
        for (int bits : Signals.FLOAT_ILLS) {
            refusals.illegalArgument("turn to ILL " + bits, x -> x.turn(2, 1, 0, bits));
        }
        for (long bits : Signals.DOUBLE_ILLS) {
            refusals.illegalArgument("turn to ILL " + bits, x -> Signals.turn(x, 3, 1, bits));
        }
        PedalBoard x = Snapshot.playedBoard();
        due.illegalArgument("turn to ILL", () -> x.turn(2, 1, 0, -1));
        due.is(false, "turn to what it has, behind a refused turn", () -> Signals.turn(x, 2, 1, Signals.f(3.25f)));
    }

    public static void main(String[] args) {
        ordinary();
        playsWithTheNewKnob();
        wrong();
        due.end();
    }
}
