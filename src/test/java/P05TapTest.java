/** Promise 5: tap. */
public final class P05TapTest {
    private static void onOrOff(Due due) {
        for (int wire : Signals.WIRES) {
            PedalBoard x = Boards.withPedals(wire, 2);
            due.is(false, "tap of a pedal that is on", () -> x.tap(wire, 1));
            due.is(1, "pedals that are on", () -> x.about(wire, 1));
            due.is(true, "tap of a pedal that is off", () -> x.tap(wire, 1));
            due.is(2, "pedals that are on", () -> x.about(wire, 1));
            due.is(false, "tap of a pedal that is on again", () -> x.tap(wire, 1));
            due.is(false, "tap of the other one", () -> x.tap(wire, 0));
            due.is(0, "pedals that are on", () -> x.about(wire, 1));
            due.is(2, "pedals", () -> x.about(wire, 0));
        }
    }

    private static void playsSo(Due due) {
        for (int wire : Signals.WIRES) {
            PedalBoard x = Boards.withPedals(wire, 2);
            x.tap(wire, 1);
            due.is(1, "play with FLIP off", () -> x.play(wire, 1));
            x.tap(wire, 1);
            due.is(1, "play with FLIP on, upright already", () -> x.play(wire, 1));
            due.is(Boards.signal(wire), "WET then", () -> x.code(wire, 1));
            x.tap(wire, 0);
            x.tap(wire, 1);
            due.is(0, "play with both off", () -> x.play(wire, 50));
            due.is(Boards.signal(wire), "WET then", () -> x.code(wire, 1));
        }
    }

    private static void theRestStays(Due due) {
        for (int wire : Signals.WIRES) {
            PedalBoard x = Boards.played();
            String before = Boards.shown(x);
            x.tap(wire, 2);
            x.tap(wire, 2);
            due.is(before, "what the board shows behind two taps", () -> Boards.shown(x));
            x.tap(wire, 2);
            due.is(x.code(wire, 1), "trace behind tap", () -> x.trace(wire, 2));
            due.is(true, "light behind tap", () -> x.light(wire, 2));
            due.is(false, "turn behind tap to the knob that it has", () -> Signals.turn(x, wire, 2, Boards.knob(wire)));
        }
    }

    private static void firstAndLast(Due due) {
        for (int wire : Signals.WIRES) {
            PedalBoard x = Boards.withPedals(wire, Boards.MOST_PEDALS);
            due.is(false, "tap of the first one", () -> x.tap(wire, 0));
            due.is(false, "tap of the last one", () -> x.tap(wire, Boards.LAST_PLACE));
            for (int i = 0; i < Boards.MOST_PEDALS; i++) {
                int place = i;
                boolean wasOff = i == 0 || i == Boards.LAST_PLACE;
                due.is(wasOff, "tap of pedal " + place + " then", () -> x.tap(wire, place));
            }
        }
    }

    private static void noWire(Due due) {
        for (int wire : Signals.NO_WIRES) {
            Refusals.illegalArgument(due, "tap on wire " + wire, x -> x.tap(wire, 0));
        }
    }

    private static void noSuchPedal(Due due) {
        for (int wire : Signals.WIRES) {
            for (int place : Boards.NOT_OF_THREE) {
                Refusals.illegalArgument(due, "tap of place " + place, x -> x.tap(wire, place));
            }
            for (int place : Boards.NOT_OF_TWELVE) {
                Refusals.refused(due, Due.ILLEGAL_ARGUMENT, "tap of place " + place + " of 12", Boards::full,
                        x -> x.tap(wire, place));
            }
            due.illegalArgument("tap without pedals", () -> new PedalBoard().tap(wire, 0));
            PedalBoard x = Boards.full();
            x.recall(wire, 0);
            due.illegalArgument("tap of a place that is gone", () -> x.tap(wire, 1));
        }
    }

    public static void main(String[] args) {
        Sentences s = new Sentences();
        s.hold("A pedal goes on or off: whether it is on then.", P05TapTest::onOrOff);
        s.hold("A pedal goes on or off (and plays so)", P05TapTest::playsSo);
        s.hold("A pedal goes on or off (and nothing else)", P05TapTest::theRestStays);
        s.hold("A pedal goes on or off (the first and the last one)", P05TapTest::firstAndLast);
        s.hold("IllegalArgumentException: no wire", P05TapTest::noWire);
        s.hold("or no such pedal.", P05TapTest::noSuchPedal);
        s.end();
    }
}
