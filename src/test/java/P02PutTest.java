/** Promise 2: put. */
public final class P02PutTest {
    private static void dryAndWet(Due due) {
        for (int wire : Signals.WIRES) {
            for (long code : Signals.codes(wire)) {
                PedalBoard x = Boards.played();
                Signals.put(x, wire, code);
                due.is(code, "DRY of wire " + wire, () -> x.code(wire, 0));
                due.is(code, "WET of wire " + wire, () -> x.code(wire, 1));
            }
        }
    }

    private static void roundCount(Due due) {
        for (int wire : Signals.WIRES) {
            PedalBoard x = Boards.played();
            due.is(2, "ROUNDS before put", () -> x.about(wire, 3));
            x.put(wire, 0, 1);
            due.is(0, "ROUNDS behind put", () -> x.about(wire, 3));
            due.is(2, "ROUNDS of another wire", () -> x.about((wire + 1) % 4, 3));
            x.play(wire, 1);
            due.is(1, "ROUNDS behind put and play", () -> x.about(wire, 3));
        }
    }

    private static void withoutPeaks(Due due) {
        for (int wire : Signals.WIRES) {
            PedalBoard x = Boards.played();
            x.put(wire, 0, 1);
            due.illegalState("the greatest PEAK behind put", () -> x.code(wire, 2));
            due.illegalState("the least PEAK behind put", () -> x.code(wire, 3));
        }
    }

    private static void withoutTrace(Due due) {
        for (int wire : Signals.WIRES) {
            PedalBoard x = Boards.played();
            x.put(wire, 0, 1);
            due.illegalState("the first trace behind put", () -> x.trace(wire, 0));
            due.illegalState("the last trace behind put", () -> x.trace(wire, 2));
            due.is(false, "light behind put", () -> x.light(wire, 2));
            due.is(0, "lights behind put", () -> x.about(wire, 2));
        }
    }

    private static void theSameOneForgetsToo(Due due) {
        for (int wire : Signals.WIRES) {
            PedalBoard x = Boards.played();
            due.is(false, "put of the same DRY", () -> Signals.put(x, wire, Boards.signal(wire)));
            due.is(Boards.signal(wire), "WET behind it", () -> x.code(wire, 1));
            due.is(0, "ROUNDS behind it", () -> x.about(wire, 3));
            due.illegalState("PEAK behind it", () -> x.code(wire, 2));
            due.illegalState("trace behind it", () -> x.trace(wire, 0));
            due.is(3, "pedals behind it", () -> x.about(wire, 0));
            due.is(3, "pedals behind it that are on", () -> x.about(wire, 1));
        }
    }

    private static void another(Due due) {
        for (int wire : Signals.WIRES) {
            PedalBoard x = new PedalBoard();
            long last = 0;
            for (long code : Signals.codes(wire)) {
                boolean isAnother = code != last;
                due.is(isAnother, "put " + code + " on wire " + wire, () -> Signals.put(x, wire, code));
                due.is(false, "put " + code + " again on wire " + wire, () -> Signals.put(x, wire, code));
                last = code;
            }
        }
    }

    private static void dryNotWet(Due due) {
        for (int wire : Signals.WIRES) {
            PedalBoard x = Boards.played();
            long wet = x.code(wire, 1);
            due.is(true, "put of what WET is, and DRY is not", () -> Signals.put(x, wire, wet));
            PedalBoard y = Boards.played();
            due.is(false, "put of what DRY is, and WET is not", () -> Signals.put(y, wire, Boards.signal(wire)));
        }
    }

    private static void codesOfZeros(Due due) {
        for (int wire : Signals.FRACTION_WIRES) {
            PedalBoard x = new PedalBoard();
            due.is(true, "put of -0 behind 0", () -> Signals.put(x, wire, Signals.code(wire, -0d)));
            due.is(false, "put of -0 behind -0", () -> Signals.put(x, wire, Signals.code(wire, -0d)));
            due.is(true, "put of 0 behind -0", () -> Signals.put(x, wire, Signals.code(wire, 0d)));
            due.is(false, "put of 0 behind 0", () -> Signals.put(x, wire, Signals.code(wire, 0d)));
        }
    }

    private static void codesOfHalves(Due due) {
        PedalBoard x = new PedalBoard();
        due.is(false, "put of an int with another HIGH", () -> x.put(0, 9, 0));
        due.is(false, "put of a float with another HIGH", () -> x.put(2, 9, 0));
        due.is(true, "put of a long with another HIGH", () -> x.put(1, 9, 0));
        due.is(true, "put of a double with another HIGH", () -> x.put(3, 9, 0));
        due.is(true, "put of a long with another LOW", () -> x.put(1, 9, 1));
        due.is(true, "put of a double with another LOW", () -> x.put(3, 9, 1));
    }

    private static void noWire(Due due) {
        for (int wire : Signals.NO_WIRES) {
            Refusals.illegalArgument(due, "put on wire " + wire, x -> x.put(wire, 0, 1));
            Refusals.illegalArgument(due, "put on wire " + wire + " of what would be ILL", x -> x.put(wire, -1, -1));
        }
    }

    private static void ill(Due due) {
        for (int wire : Signals.FRACTION_WIRES) {
            for (long bits : Signals.ills(wire)) {
                Refusals.illegalArgument(due, "put of ILL " + bits, x -> Signals.put(x, wire, bits));
            }
        }
    }

    public static void main(String[] args) {
        Sentences s = new Sentences();
        s.hold("A wire's DRY and WET become a signal", P02PutTest::dryAndWet);
        s.hold("its round count 0", P02PutTest::roundCount);
        s.hold("without PEAKS", P02PutTest::withoutPeaks);
        s.hold("and TRACE", P02PutTest::withoutTrace);
        s.hold("without PEAKS and TRACE (behind the same signal too)", P02PutTest::theSameOneForgetsToo);
        s.hold("whether DRY's CODE was another one", P02PutTest::another);
        s.hold("whether DRY's CODE (not WET's)", P02PutTest::dryNotWet);
        s.hold("whether DRY's CODE was another one (0 and -0)", P02PutTest::codesOfZeros);
        s.hold("whether DRY's CODE was another one (HIGH and LOW)", P02PutTest::codesOfHalves);
        s.hold("IllegalArgumentException: no wire", P02PutTest::noWire);
        s.hold("IllegalArgumentException: .. or ILL", P02PutTest::ill);
        s.end();
    }
}
