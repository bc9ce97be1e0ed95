/** Promise 15: about. */
public final class P15AboutTest {
    private static void pedals(Due due) {
        for (int wire : Signals.WIRES) {
            for (int pedals = 0; pedals <= Boards.MOST_PEDALS; pedals++) {
                PedalBoard x = Boards.withPedals(wire, pedals);
                due.is(pedals, "about 0 of wire " + wire, () -> x.about(wire, 0));
                due.is(0, "about 0 of another wire", () -> x.about((wire + 1) % 4, 0));
            }
        }
    }

    private static void thoseThatAreOn(Due due) {
        for (int wire : Signals.WIRES) {
            PedalBoard x = Boards.withPedals(wire, Boards.MOST_PEDALS);
            for (int i = 0; i < Boards.MOST_PEDALS; i++) {
                due.is(12 - i, "about 1 of wire " + wire, () -> x.about(wire, 1));
                due.is(12, "about 0 of wire " + wire, () -> x.about(wire, 0));
                x.tap(wire, i);
            }
            due.is(0, "about 1 with all pedals off", () -> x.about(wire, 1));
            x.tap(wire, Boards.LAST_PLACE);
            due.is(1, "about 1 with the last one on", () -> x.about(wire, 1));
            x.recall(wire, 0);
            due.is(0, "about 1 without pedals", () -> x.about(wire, 1));
        }
    }

    private static void thoseWhoseLightIsOn(Due due) {
        for (int wire : Signals.WIRES) {
            PedalBoard x = Boards.withPedals(wire, Boards.MOST_PEDALS);
            due.is(0, "about 2 before a ROUND", () -> x.about(wire, 2));
            x.play(wire, 1);
            due.is(12, "about 2 with all lights on", () -> x.about(wire, 2));
            x.tap(wire, Boards.LAST_PLACE);
            due.is(12, "about 2 behind tap", () -> x.about(wire, 2));
            x.play(wire, 1);
            due.is(11, "about 2 with the last one off", () -> x.about(wire, 2));
            x.play(wire, 1);
            due.is(10, "about 2 with the first one not changing it", () -> x.about(wire, 2));
            for (int i = 0; i < Boards.LAST_PLACE; i++) {
                x.tap(wire, i);
            }
            x.play(wire, 1);
            due.is(0, "about 2 with all pedals off", () -> x.about(wire, 2));
        }
    }

    private static void lightsWithoutTrace(Due due) {
        for (int wire : Signals.WIRES) {
            PedalBoard x = Boards.played();
            due.is(2, "about 2", () -> x.about(wire, 2));
            x.pedal(wire, 0, 0, 0);
            due.is(0, "about 2 behind pedal", () -> x.about(wire, 2));
            x.play(wire, 1);
            x.swap(wire, 0, 0);
            due.is(0, "about 2 behind swap", () -> x.about(wire, 2));
            x.play(wire, 1);
            x.save(wire, 1);
            x.recall(wire, 1);
            due.is(0, "about 2 behind recall", () -> x.about(wire, 2));
            x.play(wire, 1);
            x.patch(wire, wire);
            due.is(0, "about 2 behind patch", () -> x.about(wire, 2));
            x.play(wire, 1);
            x.put(wire, 0, 0);
            due.is(0, "about 2 behind put", () -> x.about(wire, 2));
        }
    }

    private static void roundsSinceDryCame(Due due) {
        for (int wire : Signals.WIRES) {
            PedalBoard x = new PedalBoard();
            due.is(0, "about 3 of a new board", () -> x.about(wire, 3));
            x.play(wire, 1);
            due.is(1, "about 3 behind 1", () -> x.about(wire, 3));
            x.play(wire, 50);
            due.is(51, "about 3 behind 50 more", () -> x.about(wire, 3));
            x.pedal(wire, 0, 0, 0);
            x.tap(wire, 0);
            x.turn(wire, 0, 0, 1);
            x.swap(wire, 0, 0);
            x.save(wire, 0);
            x.recall(wire, 1);
            due.is(51, "about 3 behind calls that do not play", () -> x.about(wire, 3));
            due.is(0, "about 3 of another wire", () -> x.about((wire + 1) % 4, 3));
            due.illegalArgument("a refused put", () -> x.put(4, 0, 0));
            due.illegalArgument("a refused play", () -> x.play(wire, 51));
            due.is(51, "about 3 behind refused calls", () -> x.about(wire, 3));
            x.put(wire, 0, 0);
            due.is(0, "about 3 behind put", () -> x.about(wire, 3));
            x.play(wire, 7);
            x.patch(wire, wire);
            due.is(0, "about 3 behind patch", () -> x.about(wire, 3));
        }
    }

    private static void noneForOthers(Due due) {
        PedalBoard x = Boards.played();
        for (int wire : Signals.WIRES) {
            for (int what : new int[] {-1, 4, 5, Integer.MIN_VALUE, Integer.MAX_VALUE}) {
                due.is(PedalBoard.NONE, "about " + what + " of wire " + wire, () -> x.about(wire, what));
            }
        }
    }

    private static void noneOfNoWire(Due due) {
        PedalBoard x = Boards.played();
        for (int wire : Signals.NO_WIRES) {
            for (int what : new int[] {0, 1, 2, 3, -1, 4, Integer.MIN_VALUE, Integer.MAX_VALUE}) {
                due.is(PedalBoard.NONE, "about " + what + " of wire " + wire, () -> x.about(wire, what));
            }
        }
    }

    public static void main(String[] args) {
        Sentences s = new Sentences();
        s.hold("Of a wire: 0 pedals", P15AboutTest::pedals);
        s.hold("1 those that are on", P15AboutTest::thoseThatAreOn);
        s.hold("2 those whose light is on", P15AboutTest::thoseWhoseLightIsOn);
        s.hold("2 those whose light is on (none without TRACE)", P15AboutTest::lightsWithoutTrace);
        s.hold("3 ROUNDS since DRY came;", P15AboutTest::roundsSinceDryCame);
        s.hold("NONE for others", P15AboutTest::noneForOthers);
        s.hold("or of what is no wire.", P15AboutTest::noneOfNoWire);
        s.end();
    }
}
