/** The section 'Terms', a ROUND: the way of WET, the TRACE, the lights, the PEAKS, and the constant. */
public final class RoundTest {
    private static void byTheirPlaces(Due due) {
        for (int wire : Signals.WIRES) {
            PedalBoard x = new PedalBoard();
            Signals.put(x, wire, Signals.code(wire, 9));
            Signals.pedal(x, wire, Signals.FLIP, 0);
            Signals.pedal(x, wire, Signals.AT_LEAST, Signals.code(wire, -4));
            Signals.pedal(x, wire, Signals.RECTIFY, 0);
            x.play(wire, 1);
            due.is(Signals.code(wire, 4), "9 flipped, at least -4, upright, on wire " + wire, () -> x.code(wire, 1));
            x.swap(wire, 0, 2);
            Signals.put(x, wire, Signals.code(wire, 9));
            x.play(wire, 1);
            due.is(Signals.code(wire, -9), "9 upright, at least -4, flipped, on wire " + wire, () -> x.code(wire, 1));
        }
    }

    private static void wetGoesNotDry(Due due) {
        for (int wire : Signals.WIRES) {
            PedalBoard x = new PedalBoard();
            Signals.put(x, wire, Signals.code(wire, 9));
            x.pedal(wire, Signals.FLIP, 0, 0);
            x.play(wire, 1);
            due.is(Signals.code(wire, -9), "WET behind one ROUND", () -> x.code(wire, 1));
            x.play(wire, 1);
            due.is(Signals.code(wire, 9), "WET behind two ROUNDS", () -> x.code(wire, 1));
            x.play(wire, 49);
            due.is(Signals.code(wire, -9), "WET behind 51 ROUNDS", () -> x.code(wire, 1));
            due.is(Signals.code(wire, 9), "DRY behind 51 ROUNDS", () -> x.code(wire, 0));
        }
    }

    private static void outOfTheLastOne(Due due) {
        for (int wire : Signals.WIRES) {
            PedalBoard x = Boards.withPedals(wire, Boards.MOST_PEDALS);
            x.play(wire, 1);
            due.is(Boards.signal(wire), "WET behind 12 pedals, the last one FLIP", () -> x.code(wire, 1));
            due.is(Boards.signal(wire), "what came out of the last one", () -> x.trace(wire, Boards.LAST_PLACE));
        }
    }

    private static void withoutPedalsItStays(Due due) {
        for (int wire : Signals.WIRES) {
            for (long s : Signals.codes(wire)) {
                PedalBoard x = new PedalBoard();
                Signals.put(x, wire, s);
                due.is(0, "play without pedals", () -> x.play(wire, 3));
                due.is(s, "WET without pedals", () -> x.code(wire, 1));
                due.is(s, "the greatest PEAK without pedals", () -> x.code(wire, 2));
                due.is(s, "the least PEAK without pedals", () -> x.code(wire, 3));
                due.is(3, "ROUNDS without pedals", () -> x.about(wire, 3));
            }
        }
    }

    private static void traceOfTheLatest(Due due) {
        for (int wire : Signals.WIRES) {
            PedalBoard x = Boards.withPedals(wire, 2);
            Signals.put(x, wire, Signals.code(wire, 5));
            x.pedal(wire, Signals.FLIP, 0, 0);
            x.pedal(wire, Signals.FLIP, 0, 0);
            x.play(wire, 1);
            x.tap(wire, 0);
            x.play(wire, 1);
            due.is(Signals.code(wire, -5), "trace 0: it is off, -5 came in", () -> x.trace(wire, 0));
            due.is(Signals.code(wire, 5), "trace 1", () -> x.trace(wire, 1));
            due.is(Signals.code(wire, -5), "trace 2", () -> x.trace(wire, 2));
            due.is(Signals.code(wire, 5), "trace 3", () -> x.trace(wire, 3));
            x.play(wire, 2);
            due.is(Signals.code(wire, 5), "trace 3 behind the last of two ROUNDS", () -> x.trace(wire, 3));
        }
    }

    private static void lightIsOfTheCode(Due due) {
        PedalBoard x = new PedalBoard();
        for (int wire : Signals.WIRES) {
            x.pedal(wire, Signals.FLIP, 0, 0);
            x.play(wire, 1);
        }
        due.is(false, "light where an int 0 is flipped", () -> x.light(0, 0));
        due.is(false, "light where a long 0 is flipped", () -> x.light(1, 0));
        due.is(true, "light where a float 0 gets -0", () -> x.light(2, 0));
        due.is(true, "light where a double 0 gets -0", () -> x.light(3, 0));
        x.put(0, 0, Integer.MIN_VALUE);
        x.play(0, 1);
        due.is(false, "light where the least int stays itself", () -> x.light(0, 0));
        x.put(1, Integer.MIN_VALUE, 0);
        x.play(1, 1);
        due.is(false, "light where the least long stays itself", () -> x.light(1, 0));
        x.put(1, 1, 0);
        x.recall(1, 0);
        x.pedal(1, Signals.AT_MOST, 0, 0);
        x.play(1, 1);
        due.is(true, "light where only the upper bits change", () -> x.light(1, 0));
    }

    private static void lightIsOfWhatCameIn(Due due) {
        for (int wire : Signals.WIRES) {
            PedalBoard x = Boards.withPedals(wire, 3);
            x.play(wire, 1);
            due.is(true, "light where -7 gets upright", () -> x.light(wire, 0));
            due.is(true, "light where it is as DRY was, but not as what came in", () -> x.light(wire, 1));
            due.is(true, "light where it gets upright again", () -> x.light(wire, 2));
            x.tap(wire, 1);
            x.play(wire, 1);
            due.is(false, "light where it is not as DRY, but as what came in", () -> x.light(wire, 2));
        }
    }

    private static void peaks(Due due, int wire, long greatest, long least) {
        for (long first : new long[] {greatest, least}) {
            PedalBoard x = new PedalBoard();
            boolean falls = first == greatest;
            Signals.put(x, wire, first);
            x.play(wire, 1);
            due.is(first, "the greatest PEAK of one ROUND", () -> x.code(wire, 2));
            due.is(first, "the least PEAK of one ROUND", () -> x.code(wire, 3));
            Signals.pedal(x, wire, falls ? Signals.AT_MOST : Signals.AT_LEAST, falls ? least : greatest);
            x.play(wire, 1);
            due.is(greatest, "the greatest PEAK on wire " + wire, () -> x.code(wire, 2));
            due.is(least, "the least PEAK on wire " + wire, () -> x.code(wire, 3));
        }
    }

    private static void greatestAndLeast(Due due) {
        peaks(due, 0, Integer.MAX_VALUE, Integer.MIN_VALUE);
        peaks(due, 0, -1, -2);
        peaks(due, 1, Long.MAX_VALUE, Long.MIN_VALUE);
        peaks(due, 1, 1L << 40, 5);
        for (int wire : Signals.FRACTION_WIRES) {
            peaks(due, wire, Signals.code(wire, 2), Signals.code(wire, -3));
            peaks(due, wire, Signals.code(wire, -1), Signals.code(wire, -2));
            peaks(due, wire, Signals.code(wire, Float.POSITIVE_INFINITY), Signals.code(wire, Float.NEGATIVE_INFINITY));
        }
        peaks(due, 2, Signals.f(-0f), Signals.f(-Float.MIN_VALUE));
        peaks(due, 3, Signals.d(-0d), Signals.d(-Double.MIN_VALUE));
    }

    private static void minusZeroIsLess(Due due) {
        peaks(due, 2, Signals.f(0f), Signals.f(-0f));
        peaks(due, 3, Signals.d(0d), Signals.d(-0d));
    }

    private static void behindARound(Due due) {
        for (int wire : Signals.WIRES) {
            PedalBoard x = new PedalBoard();
            Signals.put(x, wire, Signals.code(wire, 100));
            x.pedal(wire, Signals.FLIP, 0, 0);
            Signals.pedal(x, wire, Signals.AT_LEAST, Signals.code(wire, -7));
            x.play(wire, 1);
            due.is(Signals.code(wire, -7), "the greatest PEAK is not DRY", () -> x.code(wire, 2));
            due.is(Signals.code(wire, -7), "the least PEAK is not between pedals", () -> x.code(wire, 3));
            x.play(wire, 1);
            due.is(Signals.code(wire, 7), "the greatest PEAK of two ROUNDS", () -> x.code(wire, 2));
            due.is(Signals.code(wire, -7), "the least PEAK of two ROUNDS", () -> x.code(wire, 3));
        }
    }

    private static void behindEachRoundOfOnePlay(Due due) {
        for (int wire : Signals.WIRES) {
            PedalBoard x = new PedalBoard();
            Signals.put(x, wire, Signals.code(wire, 6));
            x.pedal(wire, Signals.FLIP, 0, 0);
            x.play(wire, 2);
            due.is(Signals.code(wire, 6), "the greatest PEAK of one play", () -> x.code(wire, 2));
            due.is(Signals.code(wire, -6), "the least PEAK of one play", () -> x.code(wire, 3));
            Signals.put(x, wire, Signals.code(wire, 6));
            x.play(wire, 1);
            x.play(wire, 2);
            due.is(Signals.code(wire, 6), "the greatest PEAK, of the second of three ROUNDS", () -> x.code(wire, 2));
            due.is(Signals.code(wire, -6), "the least PEAK, of the two others", () -> x.code(wire, 3));
        }
    }

    private static void sinceDryCame(Due due) {
        for (int wire : Signals.WIRES) {
            PedalBoard x = new PedalBoard();
            for (double signal : new double[] {100, 5, -100}) {
                Signals.put(x, wire, Signals.code(wire, signal));
                x.play(wire, 1);
                due.is(Signals.code(wire, signal), "the greatest PEAK since " + signal + " came", () -> x.code(wire, 2));
                due.is(Signals.code(wire, signal), "the least PEAK since " + signal + " came", () -> x.code(wire, 3));
            }
        }
    }

    private static void theConstant(Due due) {
        due.is(-1, "NONE", () -> PedalBoard.NONE);
        due.is(PedalBoard.NONE, "about of the wire NONE", () -> new PedalBoard().about(PedalBoard.NONE, 0));
        due.illegalArgument("put on the wire NONE", () -> new PedalBoard().put(PedalBoard.NONE, 0, 0));
    }

    public static void main(String[] args) {
        Sentences s = new Sentences();
        s.hold("A ROUND: WET goes through the pedals by their places;", RoundTest::byTheirPlaces);
        s.hold("A ROUND: WET goes (not DRY)", RoundTest::wetGoesNotDry);
        s.hold("what comes out of the last one is WET then", RoundTest::outOfTheLastOne);
        s.hold("(without pedals it stays)", RoundTest::withoutPedalsItStays);
        s.hold("The TRACE is what came out of each in the latest ROUND;", RoundTest::traceOfTheLatest);
        s.hold("a light is on where that has another CODE", RoundTest::lightIsOfTheCode);
        s.hold("than what came in.", RoundTest::lightIsOfWhatCameIn);
        s.hold("The PEAKS are the greatest and the least WET", RoundTest::greatestAndLeast);
        s.hold("(-0 less than 0)", RoundTest::minusZeroIsLess);
        s.hold("WET behind a ROUND", RoundTest::behindARound);
        s.hold("WET behind a ROUND (each of one play)", RoundTest::behindEachRoundOfOnePlay);
        s.hold("since DRY came", RoundTest::sinceDryCame);
        s.hold("`NONE = -1`: No wire's; none.", RoundTest::theConstant);
        s.end();
    }
}
