/** The section 'What it is', part by part. */
public final class WhatItIsTest {
    private static final int[] OTHER_WIRES = {1, 2, 3};

    private static long greatest(int wire) {
        long[] ends = {
            Integer.MAX_VALUE, Long.MAX_VALUE, Signals.f(Float.POSITIVE_INFINITY), Signals.d(Double.POSITIVE_INFINITY),
        };
        return ends[wire];
    }

    private static void aSignalEach(Due due) {
        PedalBoard x = new PedalBoard();
        for (int wire : Signals.WIRES) {
            due.is(true, "put of the greatest one on wire " + wire, () -> Signals.put(x, wire, greatest(wire)));
        }
        for (int wire : Signals.WIRES) {
            due.is(greatest(wire), "DRY of wire " + wire, () -> x.code(wire, 0));
            due.is(greatest(wire), "WET of wire " + wire, () -> x.code(wire, 1));
        }
    }

    /** What a call on one wire leaves on the three others, held against a board without that call. */
    private static void othersStay(Due due, String what, int wire, Refusals.Call call) {
        PedalBoard x = Boards.played();
        PedalBoard twin = Boards.played();
        call.on(x);
        for (int step : OTHER_WIRES) {
            int other = (wire + step) % 4;
            due.is(Boards.probed(twin, other), "wire " + other + " behind " + what + " on " + wire, () -> Boards.probed(x, other));
        }
    }

    private static void eachWireForItself(Due due) {
        for (int wire : Signals.WIRES) {
            othersStay(due, "put", wire, x -> x.put(wire, 0, 1));
            othersStay(due, "pedal", wire, x -> x.pedal(wire, Signals.FLIP, 0, 1));
            othersStay(due, "turn", wire, x -> x.turn(wire, 1, 0, 1));
            othersStay(due, "tap", wire, x -> x.tap(wire, 1));
            othersStay(due, "swap", wire, x -> x.swap(wire, 0, 2));
            othersStay(due, "play", wire, x -> x.play(wire, 3));
            othersStay(due, "save", wire, x -> x.save(wire, 0));
            othersStay(due, "recall", wire, x -> x.recall(wire, 0));
            for (int from : Signals.WIRES) {
                othersStay(due, "patch from " + from, wire, x -> x.patch(from, wire));
            }
        }
    }

    private static void oneBehindTheOther(Due due) {
        for (int wire : Signals.WIRES) {
            PedalBoard x = new PedalBoard();
            Signals.put(x, wire, Signals.code(wire, -9));
            Signals.pedal(x, wire, Signals.AT_MOST, Signals.code(wire, 4));
            x.pedal(wire, Signals.RECTIFY, 0, 0);
            due.is(1, "play: AT MOST changes nothing, RECTIFY does", () -> x.play(wire, 1));
            due.is(Signals.code(wire, 9), "-9, at most 4, upright", () -> x.code(wire, 1));
            due.is(1, "play: AT MOST changes it, RECTIFY does not", () -> x.play(wire, 1));
            due.is(Signals.code(wire, 4), "9, at most 4, upright", () -> x.code(wire, 1));
        }
    }

    private static void through(Due due, int wire, int kind, double knob, double s, double want) {
        PedalBoard x = new PedalBoard();
        Signals.put(x, wire, Signals.code(wire, s));
        Signals.pedal(x, wire, kind, Signals.code(wire, knob));
        x.play(wire, 1);
        due.is(Signals.code(wire, want), "kind " + kind + " with knob " + knob + " of " + s, () -> x.code(wire, 1));
    }

    private static void upright(Due due) {
        for (int wire : Signals.WIRES) {
            through(due, wire, Signals.RECTIFY, -1, -8, 8);
            through(due, wire, Signals.RECTIFY, -1, 8, 8);
        }
    }

    private static void heldByAKnob(Due due) {
        for (int wire : Signals.WIRES) {
            PedalBoard x = new PedalBoard();
            Signals.put(x, wire, Signals.code(wire, 50));
            Signals.pedal(x, wire, Signals.AT_LEAST, Signals.code(wire, -5));
            Signals.pedal(x, wire, Signals.AT_MOST, Signals.code(wire, 5));
            x.play(wire, 1);
            due.is(Signals.code(wire, 5), "50 held between -5 and 5", () -> x.code(wire, 1));
            Signals.turn(x, wire, 0, Signals.code(wire, 20));
            Signals.turn(x, wire, 1, Signals.code(wire, 30));
            x.play(wire, 1);
            due.is(Signals.code(wire, 20), "5 held between 20 and 30", () -> x.code(wire, 1));
        }
    }

    private static void toWholeNumbers(Due due) {
        for (int wire : Signals.FRACTION_WIRES) {
            through(due, wire, Signals.DOWN, 0, -7.25, -8);
            through(due, wire, Signals.UP, 0, -7.25, -7);
            through(due, wire, Signals.NEAR, 0, -7.25, -7);
            through(due, wire, Signals.NEAR, 0, -7.75, -8);
        }
    }

    private static void takeItsSignOrGiveItOne(Due due) {
        for (int wire : Signals.FRACTION_WIRES) {
            through(due, wire, Signals.SIGN, 4, -7.25, -1);
            through(due, wire, Signals.SIGN, -4, 7.25, 1);
            through(due, wire, Signals.POLARITY, -4, 7.25, -7.25);
            through(due, wire, Signals.POLARITY, 4, -7.25, 7.25);
        }
        for (int wire : Signals.WIRES) {
            through(due, wire, Signals.FLIP, 4, 7, -7);
        }
    }

    private static void roundsLightsTracePeaks(Due due) {
        for (int wire : Signals.WIRES) {
            PedalBoard x = new PedalBoard();
            Signals.put(x, wire, Signals.code(wire, 10));
            x.pedal(wire, Signals.FLIP, 0, 0);
            Signals.pedal(x, wire, Signals.AT_LEAST, Signals.code(wire, -6));
            due.is(4, "play: 10, -6, 6, -6", () -> x.play(wire, 3));
            due.is(3, "rounds", () -> x.about(wire, 3));
            due.is(true, "light of FLIP", () -> x.light(wire, 0));
            due.is(false, "light of AT LEAST", () -> x.light(wire, 1));
            due.is(1, "lights", () -> x.about(wire, 2));
            due.is(Signals.code(wire, -6), "what came out of FLIP", () -> x.trace(wire, 0));
            due.is(Signals.code(wire, -6), "what came out of AT LEAST", () -> x.trace(wire, 1));
            due.is(Signals.code(wire, 6), "the greatest PEAK", () -> x.code(wire, 2));
            due.is(Signals.code(wire, -6), "the least PEAK", () -> x.code(wire, 3));
            due.is(-1, "WET against DRY", () -> x.against(wire));
        }
    }

    private static void presetsAndPatches(Due due) {
        PedalBoard x = new PedalBoard();
        for (int wire : Signals.WIRES) {
            for (int preset = 0; preset < 4; preset++) {
                int at = preset;
                x.pedal(wire, Signals.RECTIFY, 0, 0);
                due.is(at + 1, "save on wire " + wire, () -> x.save(wire, at));
            }
            due.is(2, "recall on wire " + wire, () -> x.recall(wire, 1));
        }
        Signals.put(x, 3, Signals.d(-300.75));
        due.is(Signals.f(-300.75f), "patch from double to float", () -> x.patch(3, 2));
        due.is(-300, "patch from float to long", () -> x.patch(2, 1));
        due.is(-300, "patch from long to int", () -> x.patch(1, 0));
        due.is(Signals.d(-300d), "patch from int to double", () -> x.patch(0, 3));
    }

    public static void main(String[] args) {
        Sentences s = new Sentences();
        s.hold("four wires with a signal each, an int, a long, a float and a double", WhatItIsTest::aSignalEach);
        s.hold("four wires with a signal each (a call on one wire leaves the others)", WhatItIsTest::eachWireForItself);
        s.hold("pedals one behind the other", WhatItIsTest::oneBehindTheOther);
        s.hold("that make it upright", WhatItIsTest::upright);
        s.hold("hold it by a knob", WhatItIsTest::heldByAKnob);
        s.hold("bring it to whole numbers", WhatItIsTest::toWholeNumbers);
        s.hold("take its sign or give it one", WhatItIsTest::takeItsSignOrGiveItOne);
        s.hold("played in rounds, with lights, a trace, peaks", WhatItIsTest::roundsLightsTracePeaks);
        s.hold("presets, and patches from wire to wire.", WhatItIsTest::presetsAndPatches);
        s.end();
    }
}
