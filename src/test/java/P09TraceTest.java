/** Promise 9: trace. */
public final class P09TraceTest {
    private static final Due due = new Due();
    private static final Refusals refusals = new Refusals(due);

    private static void ordinary() {
        PedalBoard x = Snapshot.playedBoard();
        long[][] want = {
            {3, 3, -3},
            {3, 3, -3},
            {Signals.f(3.25f), Signals.f(3.25f), Signals.f(-3.25f)},
            {Signals.d(3.25), Signals.d(3.25), Signals.d(-3.25)},
        };
        for (int i = 0; i < 12; i++) {
            int wire = i / 3;
            int place = i % 3;
            due.is(want[wire][place], "trace " + place + " of wire " + wire, () -> x.trace(wire, place));
        }
    }

    private static void thereIsNone() {
        for (int i = 0; i < 4; i++) {
            int wire = i;
            for (int what = 0; what < 5; what++) {
                PedalBoard x = Snapshot.playedBoard();
                loseTrace(x, wire, what);
                due.illegalState("trace behind way " + what + " to lose it", () -> x.trace(wire, 0));
                due.illegalArgument("trace of no pedal then", () -> x.trace(wire, x.about(wire, 0)));
                due.illegalArgument("trace of place -1 then", () -> x.trace(wire, -1));
                due.is(Snapshot.playedBoard().trace((wire + 1) % 4, 2), "trace of another wire", () -> x.trace((wire + 1) % 4, 2));
                x.play(wire, 1);
                due.is(x.code(wire, 1), "trace behind play again", () -> x.trace(wire, x.about(wire, 0) - 1));
            }
        }
    }

    private static void loseTrace(PedalBoard x, int wire, int what) {
        switch (what) {
            case 0:
                x.put(wire, 0, 0);
                break;
            case 1:
                x.pedal(wire, 0, 0, 0);
                break;
            case 2:
                x.swap(wire, 0, 1);
                break;
            case 3:
                x.recall(wire, 0);
                break;
            default:
                x.patch(wire, wire);
                break;
        }
    }

    private static void keptOtherwise() {
        PedalBoard x = Snapshot.playedBoard();
        long out = x.trace(0, 2);
        x.turn(0, 1, 0, 1);
        x.tap(0, 2);
        x.save(0, 3);
        x.patch(0, 1);
        due.is(out, "trace behind turn, tap, save and a patch to another wire", () -> x.trace(0, 2));
    }

    private static void wrong() {
        for (int wire : Signals.NO_WIRES) {
            refusals.illegalArgument("trace of wire " + wire, x -> x.trace(wire, 0));
        }
        for (int i = 0; i < 4; i++) {
            int wire = i;
            for (int place : new int[] {-1, 3, 12, Integer.MIN_VALUE, Integer.MAX_VALUE}) {
                refusals.illegalArgument("trace of place " + place, x -> x.trace(wire, place));
            }
            PedalBoard x = new PedalBoard();
            x.play(wire, 1);
            due.illegalArgument("trace without pedals, played", () -> x.trace(wire, 0));
        }
    }

    public static void main(String[] args) {
        ordinary();
        thereIsNone();
        keptOtherwise();
        wrong();
        due.end();
    }
}
