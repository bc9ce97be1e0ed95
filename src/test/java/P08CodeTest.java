/** Promise 8: code. */
public final class P08CodeTest {
    /** WET 8, then -5, then 2: DRY, WET and both PEAKS are four codes. */
    private static PedalBoard withFourCodes(int wire) {
        PedalBoard x = new PedalBoard();
        Signals.put(x, wire, Signals.code(wire, -8));
        x.pedal(wire, Signals.FLIP, 0, 0);
        Signals.pedal(x, wire, Signals.AT_LEAST, Signals.code(wire, -5));
        x.play(wire, 2);
        Signals.turn(x, wire, 1, Signals.code(wire, -9));
        Signals.pedal(x, wire, Signals.AT_MOST, Signals.code(wire, 2));
        x.play(wire, 1);
        return x;
    }

    private static void ask(Due due, int which, double want) {
        for (int wire : Signals.WIRES) {
            PedalBoard x = withFourCodes(wire);
            due.is(Signals.code(wire, want), "code " + which + " of wire " + wire, () -> x.code(wire, which));
            due.is(Signals.code(wire, want), "code " + which + ", asked again", () -> x.code(wire, which));
            due.is(0, "DRY of another wire", () -> x.code((wire + 1) % 4, 0));
            due.is(0, "WET of another wire", () -> x.code((wire + 1) % 4, 1));
        }
    }

    private static void ends(Due due) {
        for (int wire : Signals.WIRES) {
            for (long code : Signals.codes(wire)) {
                PedalBoard x = new PedalBoard();
                Signals.put(x, wire, code);
                x.play(wire, 1);
                for (int i = 0; i < 4; i++) {
                    int which = i;
                    due.is(code, "code " + which + " of wire " + wire, () -> x.code(wire, which));
                }
            }
        }
    }

    private static void noWire(Due due) {
        for (int wire : Signals.NO_WIRES) {
            for (int i = -1; i <= 4; i++) {
                int which = i;
                Refusals.illegalArgument(due, "code " + which + " of wire " + wire, x -> x.code(wire, which));
                due.illegalArgument("code " + which + " of wire " + wire + ", new", () -> new PedalBoard().code(wire, which));
            }
        }
    }

    private static void noneOfThese(Due due) {
        for (int wire : Signals.WIRES) {
            for (int which : new int[] {-1, 4, 5, Integer.MIN_VALUE, Integer.MAX_VALUE}) {
                Refusals.illegalArgument(due, "code " + which, x -> x.code(wire, which));
                due.illegalArgument("code " + which + " without PEAKS", () -> new PedalBoard().code(wire, which));
            }
        }
    }

    private static void noPeaks(Due due) {
        for (int wire : Signals.WIRES) {
            PedalBoard x = Boards.withPedals(wire, 3);
            PedalBoard y = Boards.played();
            Signals.put(y, wire, Boards.signal(wire));
            PedalBoard z = Boards.played();
            z.patch(wire, wire);
            for (int i = 2; i <= 3; i++) {
                int which = i;
                due.illegalState("code " + which + " of a new board", () -> new PedalBoard().code(wire, which));
                due.illegalState("code " + which + " before a ROUND", () -> x.code(wire, which));
                due.illegalState("code " + which + " behind put", () -> y.code(wire, which));
                due.illegalState("code " + which + " behind patch", () -> z.code(wire, which));
            }
            x.play(wire, 1);
            due.is(x.code(wire, 1), "the greatest PEAK behind a ROUND", () -> x.code(wire, 2));
            due.is(x.code(wire, 1), "the least PEAK behind a ROUND", () -> x.code(wire, 3));
        }
    }

    private static void dryAndWetNeedNoPeaks(Due due) {
        for (int wire : Signals.WIRES) {
            PedalBoard x = Boards.withPedals(wire, 3);
            due.is(Boards.signal(wire), "code 0 before a ROUND", () -> x.code(wire, 0));
            due.is(Boards.signal(wire), "code 1 before a ROUND", () -> x.code(wire, 1));
        }
    }

    private static void peaksStay(Due due) {
        for (int wire : Signals.WIRES) {
            PedalBoard x = withFourCodes(wire);
            x.pedal(wire, 0, 0, 0);
            x.tap(wire, 0);
            x.swap(wire, 0, 1);
            x.save(wire, 0);
            x.recall(wire, 1);
            x.patch(wire, (wire + 1) % 4);
            due.is(Signals.code(wire, 8), "the greatest PEAK behind calls that do not play", () -> x.code(wire, 2));
            due.is(Signals.code(wire, -5), "the least PEAK behind them", () -> x.code(wire, 3));
        }
    }

    public static void main(String[] args) {
        Sentences s = new Sentences();
        s.hold("A CODE: 0 of DRY", due -> ask(due, 0, -8));
        s.hold("1 of WET", due -> ask(due, 1, 2));
        s.hold("2 of the greatest PEAK", due -> ask(due, 2, 8));
        s.hold("3 of the least one.", due -> ask(due, 3, -5));
        s.hold("A CODE (of every edge signal)", P08CodeTest::ends);
        s.hold("IllegalArgumentException: no wire", P08CodeTest::noWire);
        s.hold("or none of these.", P08CodeTest::noneOfThese);
        s.hold("IllegalStateException: there are no PEAKS", P08CodeTest::noPeaks);
        s.hold("(2, 3).", P08CodeTest::dryAndWetNeedNoPeaks);
        s.hold("there are no PEAKS (only behind put and patch)", P08CodeTest::peaksStay);
        s.end();
    }
}
