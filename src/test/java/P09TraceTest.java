/** Promise 9: trace. */
public final class P09TraceTest {
    private static void whatCameOut(Due due) {
        for (int wire : Signals.WIRES) {
            PedalBoard x = new PedalBoard();
            Signals.put(x, wire, Signals.code(wire, -9));
            x.pedal(wire, Signals.RECTIFY, 0, 0);
            Signals.pedal(x, wire, Signals.AT_MOST, Signals.code(wire, 6));
            x.pedal(wire, Signals.FLIP, 0, 0);
            x.play(wire, 1);
            due.is(Signals.code(wire, 9), "trace 0", () -> x.trace(wire, 0));
            due.is(Signals.code(wire, 6), "trace 1", () -> x.trace(wire, 1));
            due.is(Signals.code(wire, -6), "trace 2", () -> x.trace(wire, 2));
        }
    }

    private static void theLatestRound(Due due) {
        for (int wire : Signals.WIRES) {
            PedalBoard x = Boards.withPedals(wire, 0);
            x.pedal(wire, Signals.FLIP, 0, 0);
            for (int rounds : new int[] {1, 2, 1, 50, 49}) {
                x.play(wire, rounds);
                due.is(x.code(wire, 1), "trace behind " + rounds + " rounds more", () -> x.trace(wire, 0));
            }
        }
    }

    private static void firstAndLast(Due due) {
        for (int wire : Signals.WIRES) {
            PedalBoard x = Boards.withPedals(wire, Boards.MOST_PEDALS);
            x.play(wire, 1);
            for (int i = 0; i < Boards.MOST_PEDALS; i++) {
                int place = i;
                due.is(Signals.code(wire, wire < 2 ? i % 2 == 0 ? 7 : -7 : i % 2 == 0 ? 7.5 : -7.5), "trace " + place + " of 12",
                        () -> x.trace(wire, place));
            }
        }
    }

    private static void noWire(Due due) {
        for (int wire : Signals.NO_WIRES) {
            Refusals.illegalArgument(due, "trace of wire " + wire, x -> x.trace(wire, 0));
        }
    }

    private static void noSuchPedal(Due due) {
        for (int wire : Signals.WIRES) {
            for (int place : Boards.NOT_OF_THREE) {
                Refusals.illegalArgument(due, "trace of place " + place, x -> x.trace(wire, place));
            }
            for (int place : Boards.NOT_OF_TWELVE) {
                Refusals.refused(due, Due.ILLEGAL_ARGUMENT, "trace of place " + place + " of 12", Boards::full,
                        x -> x.trace(wire, place));
            }
            PedalBoard x = new PedalBoard();
            x.play(wire, 1);
            due.illegalArgument("trace without pedals, played", () -> x.trace(wire, 0));
        }
    }

    private static void noSuchPedalAndNoTrace(Due due) {
        for (int wire : Signals.WIRES) {
            due.illegalArgument("trace of a new board", () -> new PedalBoard().trace(wire, 0));
            PedalBoard x = Boards.played();
            x.put(wire, 0, 0);
            for (int place : Boards.NOT_OF_THREE) {
                due.illegalArgument("trace of place " + place + " without TRACE", () -> x.trace(wire, place));
            }
            PedalBoard y = Boards.played();
            y.recall(wire, 3);
            due.illegalArgument("trace behind the recall of an empty preset", () -> y.trace(wire, 0));
        }
    }

    private interface Loss {
        void on(PedalBoard x, int wire);
    }

    private static void lost(Due due, String by, Loss loss) {
        for (int wire : Signals.WIRES) {
            PedalBoard x = Boards.played();
            x.save(wire, 1);
            loss.on(x, wire);
            for (int i = 0; i < 3; i++) {
                int place = i;
                due.illegalState("trace " + place + " behind " + by, () -> x.trace(wire, place));
            }
            int other = (wire + 1) % 4;
            due.is(x.code(other, 1), "trace of another wire behind " + by, () -> x.trace(other, 2));
            x.play(wire, 1);
            int last = x.about(wire, 0) - 1;
            due.is(x.code(wire, 1), "trace behind " + by + " and play", () -> x.trace(wire, last));
        }
    }

    private static void noTrace(Due due) {
        for (int wire : Signals.WIRES) {
            PedalBoard x = Boards.withPedals(wire, 3);
            due.illegalState("trace before a ROUND", () -> x.trace(wire, 0));
            due.illegalState("trace before a ROUND", () -> x.trace(wire, 2));
        }
        lost(due, "put", (x, wire) -> x.put(wire, 0, 0));
        lost(due, "pedal", (x, wire) -> x.pedal(wire, 0, 0, 0));
        lost(due, "swap", (x, wire) -> x.swap(wire, 0, 1));
        lost(due, "recall", (x, wire) -> x.recall(wire, 1));
        lost(due, "patch", (x, wire) -> x.patch(wire, wire));
        lost(due, "patch from another wire", (x, wire) -> x.patch((wire + 3) % 4, wire));
    }

    private static void thereIsOneStill(Due due) {
        for (int wire : Signals.WIRES) {
            PedalBoard x = Boards.played();
            long out = x.trace(wire, 2);
            Signals.turn(x, wire, 2, Signals.code(wire, 1));
            due.is(out, "trace behind turn", () -> x.trace(wire, 2));
            x.tap(wire, 2);
            due.is(out, "trace behind tap", () -> x.trace(wire, 2));
            x.save(wire, 3);
            due.is(out, "trace behind save", () -> x.trace(wire, 2));
            x.patch(wire, (wire + 1) % 4);
            due.is(out, "trace behind a patch to another wire", () -> x.trace(wire, 2));
        }
    }

    public static void main(String[] args) {
        Sentences s = new Sentences();
        s.hold("The CODE of what came out of a pedal", P09TraceTest::whatCameOut);
        s.hold("in the latest ROUND.", P09TraceTest::theLatestRound);
        s.hold("The CODE of what came out of a pedal (of a full row)", P09TraceTest::firstAndLast);
        s.hold("IllegalArgumentException: no wire", P09TraceTest::noWire);
        s.hold("or no such pedal.", P09TraceTest::noSuchPedal);
        s.hold("or no such pedal. (and no TRACE)", P09TraceTest::noSuchPedalAndNoTrace);
        s.hold("IllegalStateException: there is no TRACE.", P09TraceTest::noTrace);
        s.hold("there is no TRACE (but there is one still behind other calls)", P09TraceTest::thereIsOneStill);
        s.end();
    }
}
