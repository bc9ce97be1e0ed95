/** Promise 6: swap. */
public final class P06SwapTest {
    private static void changePlaces(Due due) {
        for (int wire : Signals.WIRES) {
            PedalBoard x = new PedalBoard();
            Signals.put(x, wire, Signals.code(wire, -9));
            Signals.pedal(x, wire, Signals.AT_MOST, Signals.code(wire, 5));
            x.pedal(wire, Signals.RECTIFY, 0, 0);
            x.pedal(wire, Signals.FLIP, 0, 0);
            x.tap(wire, 2);
            due.is(true, "swap", () -> x.swap(wire, 0, 2));
            due.is(true, "the one that is off is the first one", () -> x.tap(wire, 0));
            due.is(3, "pedals that are on", () -> x.about(wire, 1));
            x.play(wire, 1);
            due.is(Signals.code(wire, 9), "what came out of the first one, FLIP", () -> x.trace(wire, 0));
            due.is(Signals.code(wire, 9), "what came out of the second one, RECTIFY", () -> x.trace(wire, 1));
            due.is(Signals.code(wire, 5), "what came out of the last one, AT MOST 5", () -> x.trace(wire, 2));
            due.is(false, "its knob went along", () -> Signals.turn(x, wire, 2, Signals.code(wire, 5)));
            due.is(false, "the other's knob went along", () -> x.turn(wire, 0, 0, 0));
        }
    }

    private static void firstAndLast(Due due) {
        for (int wire : Signals.WIRES) {
            PedalBoard x = Boards.withPedals(wire, Boards.MOST_PEDALS);
            long knob = Signals.code(wire, 9);
            Signals.turn(x, wire, 0, knob);
            due.is(true, "swap of the first one with the last one", () -> x.swap(wire, 0, Boards.LAST_PLACE));
            for (int i = 0; i < Boards.MOST_PEDALS; i++) {
                int place = i;
                due.is(i != Boards.LAST_PLACE, "turn of pedal " + place + " then", () -> Signals.turn(x, wire, place, knob));
            }
        }
    }

    private static void unlikeKinds(Due due) {
        for (int wire : Signals.WIRES) {
            for (int a : Signals.kinds(wire)) {
                for (int b : Signals.kinds(wire)) {
                    PedalBoard x = new PedalBoard();
                    x.pedal(wire, a, 0, 1);
                    x.pedal(wire, b, 0, 1);
                    due.is(a != b, "swap of the kinds " + a + " and " + b, () -> x.swap(wire, 0, 1));
                }
            }
        }
    }

    private static void unlikeKnobs(Due due) {
        for (int wire : Signals.WIRES) {
            PedalBoard x = Boards.withPedals(wire, 3);
            due.is(false, "swap of pedals with the same knob", () -> x.swap(wire, 0, 2));
            Signals.turn(x, wire, 2, Signals.code(wire, 8));
            due.is(true, "swap of pedals with unlike knobs", () -> x.swap(wire, 0, 2));
            due.is(false, "the knob is at the first place", () -> Signals.turn(x, wire, 0, Signals.code(wire, 8)));
            due.is(false, "the other knob is at the last place", () -> Signals.turn(x, wire, 2, Boards.knob(wire)));
        }
    }

    private static void knobsCodes(Due due) {
        for (int wire : Signals.FRACTION_WIRES) {
            PedalBoard x = new PedalBoard();
            Signals.pedal(x, wire, Signals.RECTIFY, Signals.code(wire, 0d));
            Signals.pedal(x, wire, Signals.RECTIFY, Signals.code(wire, -0d));
            due.is(true, "swap of the knobs 0 and -0", () -> x.swap(wire, 0, 1));
        }
        PedalBoard x = new PedalBoard();
        for (int wire : Signals.WIRES) {
            x.pedal(wire, Signals.RECTIFY, 1, 0);
            x.pedal(wire, Signals.RECTIFY, 2, 0);
        }
        due.is(false, "swap of ints with unlike HIGHS", () -> x.swap(0, 0, 1));
        due.is(true, "swap of longs with unlike HIGHS", () -> x.swap(1, 0, 1));
        due.is(false, "swap of floats with unlike HIGHS", () -> x.swap(2, 0, 1));
        due.is(true, "swap of doubles with unlike HIGHS", () -> x.swap(3, 0, 1));
    }

    private static void oneIsOn(Due due) {
        for (int wire : Signals.WIRES) {
            PedalBoard x = Boards.withPedals(wire, 3);
            x.tap(wire, 0);
            due.is(true, "swap of pedals of which one is on", () -> x.swap(wire, 0, 2));
            due.is(true, "swap of pedals of which the other one is on", () -> x.swap(wire, 0, 2));
            x.tap(wire, 2);
            due.is(false, "swap of pedals that are both off", () -> x.swap(wire, 0, 2));
            x.tap(wire, 0);
            x.tap(wire, 2);
            due.is(false, "swap of pedals that are both on", () -> x.swap(wire, 0, 2));
        }
    }

    private static void withItself(Due due) {
        for (int wire : Signals.WIRES) {
            PedalBoard x = Boards.full();
            for (int i = 0; i < Boards.MOST_PEDALS; i++) {
                int place = i;
                due.is(false, "swap of pedal " + place + " with itself", () -> x.swap(wire, place, place));
            }
            x.play(wire, 1);
            due.is(12, "pedals then", () -> x.about(wire, 0));
            due.is(false, "its knob stays", () -> Signals.turn(x, wire, 1, Boards.knob(wire)));
        }
    }

    private static void withoutTrace(Due due) {
        for (int wire : Signals.WIRES) {
            for (int b : new int[] {2, 1, 0}) {
                PedalBoard x = Boards.played();
                long wet = x.code(wire, 1);
                x.swap(wire, 0, b);
                due.illegalState("trace behind swap of 0 and " + b, () -> x.trace(wire, 1));
                due.is(false, "light behind swap", () -> x.light(wire, 2));
                due.is(0, "lights behind swap", () -> x.about(wire, 2));
                due.is(2, "the ROUNDS stay behind swap", () -> x.about(wire, 3));
                due.is(wet, "the PEAK stays behind swap", () -> x.code(wire, 2));
                due.is(2, "another wire's lights stay", () -> x.about((wire + 1) % 4, 2));
            }
        }
    }

    private static void withoutTraceBehindAlikeOnes(Due due) {
        for (int wire : Signals.WIRES) {
            PedalBoard x = Boards.withPedals(wire, 3);
            x.play(wire, 1);
            due.is(false, "swap of alike pedals", () -> x.swap(wire, 2, 0));
            due.illegalState("trace behind it", () -> x.trace(wire, 0));
            due.is(0, "lights behind it", () -> x.about(wire, 2));
        }
    }

    private static void noWire(Due due) {
        for (int wire : Signals.NO_WIRES) {
            Refusals.illegalArgument(due, "swap on wire " + wire, x -> x.swap(wire, 0, 1));
        }
    }

    private static void oneIsNotThere(Due due) {
        for (int wire : Signals.WIRES) {
            for (int place : Boards.NOT_OF_THREE) {
                Refusals.illegalArgument(due, "swap of place " + place + " with 0", x -> x.swap(wire, place, 0));
                Refusals.illegalArgument(due, "swap of 2 with place " + place, x -> x.swap(wire, 2, place));
            }
            for (int place : Boards.NOT_OF_TWELVE) {
                Refusals.refused(due, Due.ILLEGAL_ARGUMENT, "swap of place " + place + " of 12", Boards::full,
                        x -> x.swap(wire, place, 0));
                Refusals.refused(due, Due.ILLEGAL_ARGUMENT, "swap with place " + place + " of 12", Boards::full,
                        x -> x.swap(wire, 11, place));
            }
            PedalBoard x = Boards.full();
            x.recall(wire, 0);
            due.illegalArgument("swap with a place that is gone", () -> x.swap(wire, 0, 1));
        }
    }

    private static void noneIsThere(Due due) {
        for (int wire : Signals.WIRES) {
            for (int place : Boards.NOT_OF_THREE) {
                Refusals.illegalArgument(due, "swap of place " + place + " with itself", x -> x.swap(wire, place, place));
            }
            Refusals.illegalArgument(due, "swap of two that are not there", x -> x.swap(wire, -1, 3));
            due.illegalArgument("swap without pedals", () -> new PedalBoard().swap(wire, 0, 0));
            due.illegalArgument("swap without pedals", () -> new PedalBoard().swap(wire, 0, 1));
        }
    }

    public static void main(String[] args) {
        Sentences s = new Sentences();
        s.hold("Two pedals change places", P06SwapTest::changePlaces);
        s.hold("Two pedals change places (the first and the last one)", P06SwapTest::firstAndLast);
        s.hold("whether they are unlike (KIND)", P06SwapTest::unlikeKinds);
        s.hold("whether they are unlike (KNOB's CODE)", P06SwapTest::unlikeKnobs);
        s.hold("whether they are unlike (KNOB's CODE: 0 and -0, HIGH)", P06SwapTest::knobsCodes);
        s.hold("whether they are unlike (on)", P06SwapTest::oneIsOn);
        s.hold("whether they are unlike (one with itself)", P06SwapTest::withItself);
        s.hold("the wire is without TRACE.", P06SwapTest::withoutTrace);
        s.hold("the wire is without TRACE. (behind alike ones too)", P06SwapTest::withoutTraceBehindAlikeOnes);
        s.hold("IllegalArgumentException: no wire", P06SwapTest::noWire);
        s.hold("or one of them is not there.", P06SwapTest::oneIsNotThere);
        s.hold("or one of them is not there. (both)", P06SwapTest::noneIsThere);
        s.end();
    }
}
