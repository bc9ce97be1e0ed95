/** Promise 4: turn. */
public final class P04TurnTest {
    private static void playsWithTheNewKnob(Due due) {
        for (int wire : Signals.WIRES) {
            PedalBoard x = new PedalBoard();
            Signals.put(x, wire, Signals.code(wire, 100));
            Signals.pedal(x, wire, Signals.AT_MOST, Signals.code(wire, 50));
            x.play(wire, 1);
            due.is(true, "turn to 20", () -> Signals.turn(x, wire, 0, Signals.code(wire, 20)));
            due.is(Signals.code(wire, 50), "WET behind turn", () -> x.code(wire, 1));
            due.is(1, "play", () -> x.play(wire, 1));
            due.is(Signals.code(wire, 20), "WET behind play", () -> x.code(wire, 1));
        }
    }

    private static void theRestStays(Due due) {
        for (int wire : Signals.WIRES) {
            PedalBoard x = Boards.played();
            String before = Boards.shown(x);
            due.is(true, "turn", () -> Signals.turn(x, wire, 1, Signals.code(wire, 1)));
            due.is(before, "what the board shows behind turn", () -> Boards.shown(x));
            x.tap(wire, 1);
            Signals.turn(x, wire, 1, Signals.code(wire, 2));
            due.is(true, "tap of a pedal that was off and was turned", () -> x.tap(wire, 1));
        }
    }

    private static void firstAndLast(Due due) {
        for (int wire : Signals.WIRES) {
            PedalBoard x = Boards.withPedals(wire, Boards.MOST_PEDALS);
            long knob = Signals.code(wire, 9);
            due.is(true, "turn of the first one", () -> Signals.turn(x, wire, 0, knob));
            due.is(true, "turn of the last one", () -> Signals.turn(x, wire, Boards.LAST_PLACE, knob));
            for (int i = 0; i < Boards.MOST_PEDALS; i++) {
                int place = i;
                boolean turned = i == 0 || i == Boards.LAST_PLACE;
                due.is(!turned, "turn of pedal " + place + " then", () -> Signals.turn(x, wire, place, knob));
            }
        }
    }

    private static void another(Due due) {
        for (int wire : Signals.WIRES) {
            PedalBoard x = new PedalBoard();
            Signals.pedal(x, wire, Signals.AT_MOST, Boards.knob(wire));
            long last = Boards.knob(wire);
            for (long code : Signals.codes(wire)) {
                boolean isAnother = code != last;
                due.is(isAnother, "turn to " + code + " on wire " + wire, () -> Signals.turn(x, wire, 0, code));
                due.is(false, "turn to " + code + " again on wire " + wire, () -> Signals.turn(x, wire, 0, code));
                last = code;
            }
        }
    }

    private static void codesOfZeros(Due due) {
        for (int wire : Signals.FRACTION_WIRES) {
            PedalBoard x = new PedalBoard();
            x.pedal(wire, Signals.POLARITY, 0, 0);
            due.is(true, "turn from 0 to -0", () -> Signals.turn(x, wire, 0, Signals.code(wire, -0d)));
            due.is(false, "turn from -0 to -0", () -> Signals.turn(x, wire, 0, Signals.code(wire, -0d)));
            due.is(true, "turn from -0 to 0", () -> Signals.turn(x, wire, 0, Signals.code(wire, 0d)));
        }
    }

    private static void codesOfHalves(Due due) {
        PedalBoard x = new PedalBoard();
        for (int wire : Signals.WIRES) {
            x.pedal(wire, 0, 0, 0);
        }
        due.is(false, "turn to an int with another HIGH", () -> x.turn(0, 0, 9, 0));
        due.is(false, "turn to a float with another HIGH", () -> x.turn(2, 0, 9, 0));
        due.is(true, "turn to a long with another HIGH", () -> x.turn(1, 0, 9, 0));
        due.is(true, "turn to a double with another HIGH", () -> x.turn(3, 0, 9, 0));
        due.is(true, "turn to a long with another LOW", () -> x.turn(1, 0, 9, 1));
        due.is(true, "turn to a double with another LOW", () -> x.turn(3, 0, 9, 1));
    }

    private static void noWire(Due due) {
        for (int wire : Signals.NO_WIRES) {
            Refusals.illegalArgument(due, "turn on wire " + wire, x -> x.turn(wire, 0, 0, 1));
        }
    }

    private static void noSuchPedal(Due due) {
        for (int wire : Signals.WIRES) {
            for (int place : Boards.NOT_OF_THREE) {
                Refusals.illegalArgument(due, "turn of place " + place, x -> x.turn(wire, place, 0, 1));
            }
            for (int place : Boards.NOT_OF_TWELVE) {
                Refusals.refused(due, Due.ILLEGAL_ARGUMENT, "turn of place " + place + " of 12", Boards::full,
                        x -> x.turn(wire, place, 0, 1));
            }
            due.illegalArgument("turn without pedals", () -> new PedalBoard().turn(wire, 0, 0, 0));
            PedalBoard x = Boards.full();
            x.recall(wire, 0);
            due.illegalArgument("turn of a place that is gone", () -> x.turn(wire, 1, 0, 0));
        }
    }

    private static void ill(Due due) {
        for (int wire : Signals.FRACTION_WIRES) {
            for (long bits : Signals.ills(wire)) {
                for (int i = 0; i < 3; i++) {
                    int place = i;
                    Refusals.illegalArgument(due, "turn to ILL " + bits, x -> Signals.turn(x, wire, place, bits));
                }
            }
        }
    }

    public static void main(String[] args) {
        Sentences s = new Sentences();
        s.hold("A pedal's KNOB", P04TurnTest::playsWithTheNewKnob);
        s.hold("A pedal's KNOB (and nothing else)", P04TurnTest::theRestStays);
        s.hold("A pedal's KNOB (of the first and the last one)", P04TurnTest::firstAndLast);
        s.hold("whether its CODE was another one.", P04TurnTest::another);
        s.hold("whether its CODE was another one. (0 and -0)", P04TurnTest::codesOfZeros);
        s.hold("whether its CODE was another one. (HIGH and LOW)", P04TurnTest::codesOfHalves);
        s.hold("IllegalArgumentException: no wire", P04TurnTest::noWire);
        s.hold("no such pedal", P04TurnTest::noSuchPedal);
        s.hold("or ILL.", P04TurnTest::ill);
        s.end();
    }
}
