/** Promise 3: pedal. */
public final class P03PedalTest {
    private static void itsPlace(Due due) {
        for (int wire : Signals.WIRES) {
            PedalBoard x = new PedalBoard();
            int[] kinds = Signals.kinds(wire);
            for (int i = 0; i < Boards.MOST_PEDALS; i++) {
                int kind = kinds[i % kinds.length];
                due.is(i, "the place of pedal " + i + " on wire " + wire, () -> x.pedal(wire, kind, 0, 0));
                due.is(i + 1, "pedals of wire " + wire, () -> x.about(wire, 0));
                due.is(0, "pedals of another wire", () -> x.about((wire + 1) % 4, 0));
            }
        }
    }

    private static void behindTheOthers(Due due) {
        for (int wire : Signals.WIRES) {
            PedalBoard x = new PedalBoard();
            Signals.put(x, wire, Signals.code(wire, -50));
            x.pedal(wire, Signals.RECTIFY, 0, 0);
            Signals.pedal(x, wire, Signals.AT_MOST, Signals.code(wire, 20));
            x.pedal(wire, Signals.FLIP, 0, 0);
            x.play(wire, 1);
            due.is(Signals.code(wire, 50), "what came out of the first one", () -> x.trace(wire, 0));
            due.is(Signals.code(wire, 20), "what came out of the second one", () -> x.trace(wire, 1));
            due.is(Signals.code(wire, -20), "what came out of the third one", () -> x.trace(wire, 2));
        }
    }

    private static void whichIsOn(Due due) {
        for (int wire : Signals.WIRES) {
            PedalBoard x = new PedalBoard();
            for (int i = 0; i < Boards.MOST_PEDALS; i++) {
                x.pedal(wire, 0, 0, 0);
                due.is(i + 1, "pedals of wire " + wire + " that are on", () -> x.about(wire, 1));
            }
            for (int i = 0; i < Boards.MOST_PEDALS; i++) {
                int place = i;
                due.is(false, "tap of pedal " + place + ", which was on", () -> x.tap(wire, place));
            }
            x.recall(wire, 0);
            x.pedal(wire, 0, 0, 0);
            due.is(1, "a new pedal is on where one was that was off", () -> x.about(wire, 1));
        }
    }

    private static void withoutTrace(Due due) {
        for (int wire : Signals.WIRES) {
            PedalBoard x = Boards.played();
            long wet = x.code(wire, 1);
            x.pedal(wire, Signals.FLIP, 0, 0);
            for (int i = 0; i < 4; i++) {
                int place = i;
                due.illegalState("trace " + place + " behind pedal", () -> x.trace(wire, place));
                due.is(false, "light " + place + " behind pedal", () -> x.light(wire, place));
            }
            due.is(0, "lights behind pedal", () -> x.about(wire, 2));
            due.is(wet, "the PEAK stays behind pedal", () -> x.code(wire, 2));
            due.is(wet, "WET stays behind pedal", () -> x.code(wire, 1));
            due.is(2, "the ROUNDS stay behind pedal", () -> x.about(wire, 3));
        }
    }

    private static void anotherWiresTraceStays(Due due) {
        for (int wire : Signals.WIRES) {
            PedalBoard x = Boards.played();
            int other = (wire + 1) % 4;
            x.pedal(wire, Signals.FLIP, 0, 0);
            due.is(x.code(other, 1), "trace of wire " + other + " behind pedal on " + wire, () -> x.trace(other, 2));
        }
    }

    private static void noWire(Due due) {
        for (int wire : Signals.NO_WIRES) {
            Refusals.illegalArgument(due, "pedal on wire " + wire, x -> x.pedal(wire, 0, 0, 0));
        }
    }

    private static void noKind(Due due) {
        for (int wire : Signals.WIRES) {
            for (int kind : new int[] {-1, 9, 10, Integer.MIN_VALUE, Integer.MAX_VALUE}) {
                Refusals.illegalArgument(due, "kind " + kind + " on wire " + wire, x -> x.pedal(wire, kind, 0, 0));
            }
        }
    }

    private static void noKindOfIt(Due due) {
        for (int wire : Signals.WHOLE_WIRES) {
            for (int kind : Signals.FRACTION_KINDS) {
                Refusals.illegalArgument(due, "kind " + kind + " on wire " + wire, x -> x.pedal(wire, kind, 0, 0));
            }
        }
    }

    private static void illKnobOfAnyKind(Due due) {
        for (int wire : Signals.FRACTION_WIRES) {
            for (int kind : Signals.KINDS) {
                for (long bits : Signals.ills(wire)) {
                    Refusals.illegalArgument(due, "kind " + kind + " on wire " + wire + " with ILL " + bits,
                            x -> Signals.pedal(x, wire, kind, bits));
                }
            }
        }
    }

    private static void itHasTwelve(Due due) {
        for (int wire : Signals.WIRES) {
            for (int kind : Signals.kinds(wire)) {
                Refusals.refused(due, Due.ILLEGAL_STATE, "pedal 13 on wire " + wire, Boards::full,
                        x -> x.pedal(wire, kind, 0, 0));
            }
            PedalBoard x = Boards.withPedals(wire, 11);
            due.is(11, "pedal 12 on wire " + wire, () -> x.pedal(wire, 0, 0, 0));
            due.illegalState("pedal 13 on wire " + wire, () -> x.pedal(wire, 0, 0, 0));
            due.is(0, "pedal 1 on another wire", () -> x.pedal((wire + 1) % 4, 0, 0, 0));
        }
    }

    private static void roomAgain(Due due) {
        for (int wire : Signals.WIRES) {
            PedalBoard x = Boards.full();
            x.recall(wire, 0);
            due.is(1, "pedal behind a recall of one, where 12 were", () -> x.pedal(wire, 0, 0, 0));
        }
    }

    private static void askedLast(Due due) {
        for (int wire : Signals.NO_WIRES) {
            Refusals.refused(due, Due.ILLEGAL_ARGUMENT, "pedal 13 on wire " + wire, Boards::full, x -> x.pedal(wire, 0, 0, 0));
        }
        for (int wire : Signals.WIRES) {
            for (int kind : new int[] {-1, 9}) {
                Refusals.refused(due, Due.ILLEGAL_ARGUMENT, "pedal 13 of kind " + kind, Boards::full, x -> x.pedal(wire, kind, 0, 0));
            }
            for (long bits : Signals.ills(wire)) {
                Refusals.refused(due, Due.ILLEGAL_ARGUMENT, "pedal 13 with ILL " + bits, Boards::full,
                        x -> Signals.pedal(x, wire, 0, bits));
            }
        }
        for (int wire : Signals.WHOLE_WIRES) {
            for (int kind : Signals.FRACTION_KINDS) {
                Refusals.refused(due, Due.ILLEGAL_ARGUMENT, "pedal 13 of kind " + kind, Boards::full, x -> x.pedal(wire, kind, 0, 0));
            }
        }
    }

    public static void main(String[] args) {
        Sentences s = new Sentences();
        s.hold("A PEDAL behind the others, which is on: its place", P03PedalTest::itsPlace);
        s.hold("A PEDAL behind the others (by what comes out)", P03PedalTest::behindTheOthers);
        s.hold("which is on", P03PedalTest::whichIsOn);
        s.hold("the wire is without TRACE.", P03PedalTest::withoutTrace);
        s.hold("the wire (and no other)", P03PedalTest::anotherWiresTraceStays);
        s.hold("IllegalArgumentException: no wire", P03PedalTest::noWire);
        s.hold("no KIND", P03PedalTest::noKind);
        s.hold("no KIND of it", P03PedalTest::noKindOfIt);
        s.hold("or the KNOB (of any KIND) is ILL.", P03PedalTest::illKnobOfAnyKind);
        s.hold("IllegalStateException: it has 12", P03PedalTest::itHasTwelve);
        s.hold("IllegalStateException: it has 12 (not: it had 12)", P03PedalTest::roomAgain);
        s.hold("(asked last).", P03PedalTest::askedLast);
        s.end();
    }
}
