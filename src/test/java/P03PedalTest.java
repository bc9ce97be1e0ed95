/** Promise 3: pedal. */
public final class P03PedalTest {
    private static final Due due = new Due();
    private static final Refusals refusals = new Refusals(due);

    private static void ordinary() {
        for (int i = 0; i < 4; i++) {
            int wire = i;
            PedalBoard x = new PedalBoard();
            for (int j = 0; j < 12; j++) {
                int kind = wire < 2 ? new int[] {0, 1, 2, 8}[j % 4] : j % 9;
                due.is(j, "the place of pedal " + j + " on wire " + wire, () -> x.pedal(wire, kind, 0, 0));
                due.is(j + 1, "pedals of wire " + wire, () -> x.about(wire, 0));
                due.is(j + 1, "pedals of wire " + wire + " that are on", () -> x.about(wire, 1));
                due.is(0, "pedals of another wire", () -> x.about((wire + 1) % 4, 0));
            }
        }
    }

    private static void behindTheOthers() {
        PedalBoard x = new PedalBoard();
        x.put(0, 0, -50);
        x.pedal(0, Signals.RECTIFY, 0, 0);
        x.pedal(0, Signals.AT_MOST, 0, 20);
        x.play(0, 1);
        due.is(20, "WET of -50 upright, then at most 20", () -> x.code(0, 1));
        due.is(20, "trace", () -> x.trace(0, 1));
        due.is(2, "pedal", () -> x.pedal(0, Signals.FLIP, 0, 0));
        due.illegalState("trace behind pedal", () -> x.trace(0, 1));
        due.is(false, "light behind pedal", () -> x.light(0, 1));
        due.is(0, "lights behind pedal", () -> x.about(0, 2));
        due.is(20, "PEAK behind pedal", () -> x.code(0, 2));
        due.is(1, "ROUNDS behind pedal", () -> x.about(0, 3));
        due.is(20, "WET behind pedal", () -> x.code(0, 1));
    }

    private static void noKindOfIt() {
        for (int i = 0; i < 4; i++) {
            int wire = i;
            for (int kind : new int[] {-1, 9, 10, Integer.MIN_VALUE, Integer.MAX_VALUE}) {
                refusals.illegalArgument("pedal of kind " + kind + " on wire " + wire, x -> x.pedal(wire, kind, 0, 0));
            }
        }
        for (int j = 3; j <= 7; j++) {
            int kind = j;
            for (int wire = 0; wire < 2; wire++) {
                int whole = wire;
                refusals.illegalArgument("pedal of kind " + kind + " on wire " + wire, x -> x.pedal(whole, kind, 0, 0));
            }
        }
    }

    private static void wrong() {
        for (int wire : Signals.NO_WIRES) {
            refusals.illegalArgument("pedal on wire " + wire, x -> x.pedal(wire, 0, 0, 0));
        }
        for (int j = 0; j < 9; j++) {
            int kind = j;
            for (int bits : Signals.FLOAT_ILLS) {
                refusals.illegalArgument("pedal " + kind + " with ILL " + bits, x -> x.pedal(2, kind, 0, bits));
            }
            for (long bits : Signals.DOUBLE_ILLS) {
                refusals.illegalArgument("pedal " + kind + " with ILL " + bits, x -> Signals.pedal(x, 3, kind, bits));
            }
        }
    }

    private static PedalBoard full() {
        PedalBoard x = Snapshot.playedBoard();
        for (int i = 0; i < 36; i++) {
            int wire = i / 9;
            x.pedal(wire, 0, 0, 0);
        }
        for (int wire = 0; wire < 4; wire++) {
            x.play(wire, 1);
        }
        return x;
    }

    private static void twelveIsAskedLast() {
        for (int i = 0; i < 4; i++) {
            int wire = i;
            refusals.refused(Due.ILLEGAL_STATE, "pedal 13 on wire " + wire, full(), x -> x.pedal(wire, 0, 0, 0));
            refusals.refused(Due.ILLEGAL_ARGUMENT, "pedal 13 of no kind", full(), x -> x.pedal(wire, 9, 0, 0));
        }
        refusals.refused(Due.ILLEGAL_ARGUMENT, "pedal 13 of kind 3", full(), x -> x.pedal(0, 3, 0, 0));
        refusals.refused(Due.ILLEGAL_ARGUMENT, "pedal 13, ILL", full(), x -> x.pedal(2, 0, 0, 0x7fc00000));
        refusals.refused(Due.ILLEGAL_ARGUMENT, "pedal 13, ILL", full(), x -> x.pedal(3, 0, 0x7ff80000, 0));
    }

    public static void main(String[] args) {
        ordinary();
        behindTheOthers();
        noKindOfIt();
        wrong();
        twelveIsAskedLast();
        due.end();
    }
}
