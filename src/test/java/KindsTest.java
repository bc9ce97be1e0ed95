/** The section 'Terms', the KINDS of pedals: each sentence by hand, then each KIND with every edge signal and KNOB. */
public final class KindsTest {
    private static final float INF = Float.POSITIVE_INFINITY;

    /** What comes out of one pedal; asked of an object of its own, so that no run gets long. */
    private static void ask(Due due, long want, int wire, int kind, long knob, long s) {
        PedalBoard x = new PedalBoard();
        Signals.pedal(x, wire, kind, knob);
        Signals.put(x, wire, s);
        String what = "kind " + kind + " on wire " + wire + " with knob " + knob + " of " + s;
        due.is(want == s ? 0 : 1, "changes by " + what, () -> x.play(wire, 1));
        due.is(want, what, () -> x.code(wire, 1));
    }

    private static void whole(Due due, int kind, int knob, int s, int want) {
        for (int wire : Signals.WHOLE_WIRES) {
            ask(due, want, wire, kind, knob, s);
        }
    }

    private static void fraction(Due due, int kind, float knob, float s, float want) {
        ask(due, Signals.f(want), 2, kind, Signals.f(knob), Signals.f(s));
        ask(due, Signals.d(want), 3, kind, Signals.d(knob), Signals.d(s));
    }

    private static void onFloat(Due due, int kind, float s, float want) {
        ask(due, Signals.f(want), 2, kind, 0, Signals.f(s));
    }

    private static void onDouble(Due due, int kind, double s, double want) {
        ask(due, Signals.d(want), 3, kind, 0, Signals.d(s));
    }

    /** One pedal in its four states: two knobs, on and off. */
    private static void kindKnobOnOrOff(Due due) {
        for (int wire : Signals.WIRES) {
            for (int kind : Signals.kinds(wire)) {
                PedalBoard x = new PedalBoard();
                long s = Boards.signal(wire);
                for (long knob : new long[] {Boards.knob(wire), Signals.code(wire, -100)}) {
                    if (x.about(wire, 0) == 0) {
                        Signals.pedal(x, wire, kind, knob);
                    } else {
                        Signals.turn(x, wire, 0, knob);
                    }
                    Signals.put(x, wire, s);
                    x.play(wire, 1);
                    due.is(Mirror.through(wire, kind, knob, s), "kind " + kind + " with knob " + knob, () -> x.code(wire, 1));
                    due.is(false, "tap of the pedal, which is on", () -> x.tap(wire, 0));
                    Signals.put(x, wire, s);
                    x.play(wire, 1);
                    due.is(s, "kind " + kind + ", off", () -> x.code(wire, 1));
                    due.is(true, "tap of the pedal, which is off", () -> x.tap(wire, 0));
                }
            }
        }
    }

    private static void off(Due due) {
        for (int wire : Signals.WIRES) {
            for (int kind : Signals.kinds(wire)) {
                for (long s : Signals.codes(wire)) {
                    PedalBoard x = new PedalBoard();
                    Signals.pedal(x, wire, kind, Boards.knob(wire));
                    x.tap(wire, 0);
                    Signals.put(x, wire, s);
                    due.is(0, "play through kind " + kind + ", off", () -> x.play(wire, 1));
                    due.is(s, "kind " + kind + ", off, of " + s, () -> x.code(wire, 1));
                    due.is(s, "what came out of kind " + kind + ", off", () -> x.trace(wire, 0));
                }
            }
        }
    }

    private static void rectify(Due due) {
        fraction(due, 0, 0f, 2.5f, 2.5f);
        fraction(due, 0, 0f, -2.5f, 2.5f);
        fraction(due, 0, 0f, 0f, 0f);
        fraction(due, 0, 0f, -0f, 0f);
        fraction(due, 0, 0f, INF, INF);
        fraction(due, 0, 0f, -INF, INF);
        onFloat(due, 0, -Float.MAX_VALUE, Float.MAX_VALUE);
        onFloat(due, 0, -Float.MIN_VALUE, Float.MIN_VALUE);
        onDouble(due, 0, -Double.MAX_VALUE, Double.MAX_VALUE);
        onDouble(due, 0, -Double.MIN_VALUE, Double.MIN_VALUE);
    }

    private static void rectifyWhole(Due due) {
        whole(due, 0, 0, 5, 5);
        whole(due, 0, 0, -5, 5);
        whole(due, 0, 0, 0, 0);
        whole(due, 0, 0, -1, 1);
        whole(due, 0, 0, -Integer.MAX_VALUE, Integer.MAX_VALUE);
        ask(due, Long.MAX_VALUE, 1, 0, 0, -Long.MAX_VALUE);
        ask(due, 2147483648L, 1, 0, 0, Integer.MIN_VALUE);
    }

    private static void leastStaysRectified(Due due) {
        ask(due, Integer.MIN_VALUE, 0, 0, 0, Integer.MIN_VALUE);
        ask(due, Long.MIN_VALUE, 1, 0, 0, Long.MIN_VALUE);
    }

    private static void bothHolds(Due due, int wire, long less, long greater) {
        ask(due, less, wire, Signals.AT_MOST, less, greater);
        ask(due, less, wire, Signals.AT_MOST, greater, less);
        ask(due, less, wire, Signals.AT_MOST, less, less);
        ask(due, greater, wire, Signals.AT_LEAST, less, greater);
        ask(due, greater, wire, Signals.AT_LEAST, greater, less);
        ask(due, greater, wire, Signals.AT_LEAST, greater, greater);
    }

    private static void holdsWhole(Due due) {
        for (int wire : Signals.WHOLE_WIRES) {
            bothHolds(due, wire, 3, 5);
            bothHolds(due, wire, -5, 3);
            bothHolds(due, wire, -5, -3);
            bothHolds(due, wire, -1, 0);
            bothHolds(due, wire, Integer.MIN_VALUE, Integer.MAX_VALUE);
            bothHolds(due, wire, Integer.MIN_VALUE, Integer.MIN_VALUE + 1);
            bothHolds(due, wire, Integer.MAX_VALUE - 1, Integer.MAX_VALUE);
        }
        bothHolds(due, 1, Long.MIN_VALUE, Long.MAX_VALUE);
        bothHolds(due, 1, Long.MIN_VALUE, Long.MIN_VALUE + 1);
        bothHolds(due, 1, Long.MAX_VALUE - 1, Long.MAX_VALUE);
        bothHolds(due, 1, 0xffffffffL, 0x100000000L);
    }

    private static void holdsFractions(Due due) {
        for (int wire : Signals.FRACTION_WIRES) {
            bothHolds(due, wire, Signals.code(wire, 1.25), Signals.code(wire, 1.5));
            bothHolds(due, wire, Signals.code(wire, -1.5), Signals.code(wire, -1.25));
            bothHolds(due, wire, Signals.code(wire, -1.5), Signals.code(wire, 1.25));
            bothHolds(due, wire, Signals.code(wire, -INF), Signals.code(wire, INF));
        }
        bothHolds(due, 2, Signals.f(-Float.MIN_VALUE), Signals.f(-0f));
        bothHolds(due, 2, Signals.f(0f), Signals.f(Float.MIN_VALUE));
        bothHolds(due, 2, Signals.f(Float.MAX_VALUE), Signals.f(INF));
        bothHolds(due, 2, Signals.f(-INF), Signals.f(-Float.MAX_VALUE));
        bothHolds(due, 3, Signals.d(-Double.MIN_VALUE), Signals.d(-0d));
        bothHolds(due, 3, Signals.d(0d), Signals.d(Double.MIN_VALUE));
        bothHolds(due, 3, Signals.d(Double.MAX_VALUE), Signals.d(INF));
        bothHolds(due, 3, Signals.d(-INF), Signals.d(-Double.MAX_VALUE));
    }

    private static void zerosHeld(Due due) {
        bothHolds(due, 2, Signals.f(-0f), Signals.f(0f));
        bothHolds(due, 3, Signals.d(-0d), Signals.d(0d));
    }

    private static void flip(Due due) {
        fraction(due, 8, 0f, 2.5f, -2.5f);
        fraction(due, 8, 0f, -2.5f, 2.5f);
        fraction(due, 8, 0f, 0f, -0f);
        fraction(due, 8, 0f, -0f, 0f);
        fraction(due, 8, 0f, INF, -INF);
        fraction(due, 8, 0f, -INF, INF);
        onFloat(due, 8, Float.MIN_VALUE, -Float.MIN_VALUE);
        onFloat(due, 8, -Float.MAX_VALUE, Float.MAX_VALUE);
        onDouble(due, 8, Double.MIN_VALUE, -Double.MIN_VALUE);
        onDouble(due, 8, -Double.MAX_VALUE, Double.MAX_VALUE);
    }

    private static void flipWhole(Due due) {
        whole(due, 8, 0, 5, -5);
        whole(due, 8, 0, -5, 5);
        whole(due, 8, 0, 0, 0);
        whole(due, 8, 0, Integer.MAX_VALUE, -Integer.MAX_VALUE);
        ask(due, -Long.MAX_VALUE, 1, 8, 0, Long.MAX_VALUE);
        ask(due, 2147483648L, 1, 8, 0, Integer.MIN_VALUE);
    }

    private static void leastStaysFlipped(Due due) {
        ask(due, Integer.MIN_VALUE, 0, 8, 0, Integer.MIN_VALUE);
        ask(due, Long.MIN_VALUE, 1, 8, 0, Long.MIN_VALUE);
    }

    private static void onWires2And3Alone(Due due) {
        for (int kind : Signals.FRACTION_KINDS) {
            for (int wire : Signals.WHOLE_WIRES) {
                Refusals.illegalArgument(due, "kind " + kind + " on wire " + wire, x -> x.pedal(wire, kind, 0, 0));
            }
            for (int wire : Signals.FRACTION_WIRES) {
                due.is(0, "kind " + kind + " on wire " + wire, () -> new PedalBoard().pedal(wire, kind, 0, 0));
            }
        }
        for (int kind : Signals.WHOLE_KINDS) {
            for (int wire : Signals.WIRES) {
                due.is(0, "kind " + kind + " on wire " + wire, () -> new PedalBoard().pedal(wire, kind, 0, 0));
            }
        }
    }

    private static void down(Due due) {
        fraction(due, 3, 0f, 2.5f, 2f);
        fraction(due, 3, 0f, -2.5f, -3f);
        fraction(due, 3, 0f, 3f, 3f);
        fraction(due, 3, 0f, -3f, -3f);
        fraction(due, 3, 0f, 1f, 1f);
        fraction(due, 3, 0f, 1.0000001f, 1f);
        fraction(due, 3, 0f, -1.0000001f, -2f);
        fraction(due, 3, 0f, -0.99999994f, -1f);
        fraction(due, 3, 0f, -Float.MIN_VALUE, -1f);
        fraction(due, 3, 0f, Float.MAX_VALUE, Float.MAX_VALUE);
        onFloat(due, 3, 8388607.5f, 8388607f);
        onFloat(due, 3, -8388607.5f, -8388608f);
        onFloat(due, 3, 8388609f, 8388609f);
        onDouble(due, 3, 4503599627370495.5, 4503599627370495.0);
        onDouble(due, 3, -4503599627370495.5, -4503599627370496.0);
        onDouble(due, 3, 4503599627370497.0, 4503599627370497.0);
        onDouble(due, 3, -Double.MIN_VALUE, -1.0);
        onDouble(due, 3, -Double.MAX_VALUE, -Double.MAX_VALUE);
    }

    private static void up(Due due) {
        fraction(due, 4, 0f, 2.5f, 3f);
        fraction(due, 4, 0f, -2.5f, -2f);
        fraction(due, 4, 0f, 3f, 3f);
        fraction(due, 4, 0f, -3f, -3f);
        fraction(due, 4, 0f, -1f, -1f);
        fraction(due, 4, 0f, 1.0000001f, 2f);
        fraction(due, 4, 0f, -1.0000001f, -1f);
        fraction(due, 4, 0f, 0.99999994f, 1f);
        fraction(due, 4, 0f, Float.MIN_VALUE, 1f);
        fraction(due, 4, 0f, -Float.MAX_VALUE, -Float.MAX_VALUE);
        onFloat(due, 4, 8388607.5f, 8388608f);
        onFloat(due, 4, -8388607.5f, -8388607f);
        onFloat(due, 4, 8388609f, 8388609f);
        onDouble(due, 4, 4503599627370495.5, 4503599627370496.0);
        onDouble(due, 4, -4503599627370495.5, -4503599627370495.0);
        onDouble(due, 4, 4503599627370497.0, 4503599627370497.0);
        onDouble(due, 4, Double.MIN_VALUE, 1.0);
        onDouble(due, 4, Double.MAX_VALUE, Double.MAX_VALUE);
    }

    private static void near(Due due) {
        for (int sign = -1; sign <= 1; sign += 2) {
            fraction(due, 5, 0f, sign * 2.25f, sign * 2f);
            fraction(due, 5, 0f, sign * 2.75f, sign * 3f);
            fraction(due, 5, 0f, sign * 3f, sign * 3f);
            fraction(due, 5, 0f, sign * 0.50000006f, sign * 1f);
            fraction(due, 5, 0f, sign * 0.99999994f, sign * 1f);
            fraction(due, 5, 0f, sign * 1.4999999f, sign * 1f);
            fraction(due, 5, 0f, sign * 1.5000001f, sign * 2f);
            fraction(due, 5, 0f, sign * Float.MAX_VALUE, sign * Float.MAX_VALUE);
            onFloat(due, 5, sign * 8388609f, sign * 8388609f);
            onDouble(due, 5, sign * 4503599627370497.0, sign * 4503599627370497.0);
            onDouble(due, 5, sign * 0.5000000000000001, sign * 1.0);
            onDouble(due, 5, sign * 1.4999999999999998, sign * 1.0);
            onDouble(due, 5, sign * Double.MAX_VALUE, sign * Double.MAX_VALUE);
        }
    }

    private static void ofTwoTheEvenOne(Due due) {
        for (int sign = -1; sign <= 1; sign += 2) {
            fraction(due, 5, 0f, sign * 0.5f, sign * 0f);
            fraction(due, 5, 0f, sign * 1.5f, sign * 2f);
            fraction(due, 5, 0f, sign * 2.5f, sign * 2f);
            fraction(due, 5, 0f, sign * 3.5f, sign * 4f);
            fraction(due, 5, 0f, sign * 4.5f, sign * 4f);
            fraction(due, 5, 0f, sign * 4194303.5f, sign * 4194304f);
            fraction(due, 5, 0f, sign * 4194304.5f, sign * 4194304f);
            fraction(due, 5, 0f, sign * 8388606.5f, sign * 8388606f);
            fraction(due, 5, 0f, sign * 8388607.5f, sign * 8388608f);
            onDouble(due, 5, sign * 4503599627370494.5, sign * 4503599627370494.0);
            onDouble(due, 5, sign * 4503599627370495.5, sign * 4503599627370496.0);
        }
    }

    private static void infiniteOnesAndZerosStay(Due due) {
        for (int kind = 3; kind <= 5; kind++) {
            fraction(due, kind, 1f, INF, INF);
            fraction(due, kind, 1f, -INF, -INF);
            fraction(due, kind, 1f, 0f, 0f);
            fraction(due, kind, 1f, -0f, -0f);
        }
    }

    private static void whatGetsZeroHasTheSign(Due due) {
        fraction(due, 3, -1f, 0.5f, 0f);
        fraction(due, 3, -1f, 0.99999994f, 0f);
        fraction(due, 3, -1f, Float.MIN_VALUE, 0f);
        fraction(due, 4, 1f, -0.5f, -0f);
        fraction(due, 4, 1f, -0.99999994f, -0f);
        fraction(due, 4, 1f, -Float.MIN_VALUE, -0f);
        fraction(due, 5, -1f, 0.5f, 0f);
        fraction(due, 5, 1f, -0.5f, -0f);
        fraction(due, 5, -1f, 0.49999997f, 0f);
        fraction(due, 5, 1f, -0.49999997f, -0f);
        fraction(due, 5, -1f, Float.MIN_VALUE, 0f);
        fraction(due, 5, 1f, -Float.MIN_VALUE, -0f);
        onDouble(due, 3, Double.MIN_VALUE, 0d);
        onDouble(due, 4, -Double.MIN_VALUE, -0d);
        onDouble(due, 5, -Double.MIN_VALUE, -0d);
        onDouble(due, 5, -0.49999999999999994, -0d);
    }

    private static void sign(Due due) {
        for (float size : new float[] {Float.MIN_VALUE, 0.5f, 1f, 7.5f, Float.MAX_VALUE, INF}) {
            fraction(due, 6, -5f, size, 1f);
            fraction(due, 6, 5f, -size, -1f);
        }
        onDouble(due, 6, Double.MIN_VALUE, 1d);
        onDouble(due, 6, -Double.MAX_VALUE, -1d);
    }

    private static void signOfZeroStays(Due due) {
        fraction(due, 6, -5f, 0f, 0f);
        fraction(due, 6, 5f, -0f, -0f);
    }

    private static void polarity(Due due) {
        for (float size : new float[] {0f, Float.MIN_VALUE, 7.5f, Float.MAX_VALUE, INF}) {
            for (float knob : new float[] {Float.MIN_VALUE, 3f, INF}) {
                fraction(due, 7, knob, size, size);
                fraction(due, 7, knob, -size, size);
                fraction(due, 7, -knob, size, -size);
                fraction(due, 7, -knob, -size, -size);
            }
        }
    }

    private static void minusZeroHasASign(Due due) {
        for (float size : new float[] {0f, Float.MIN_VALUE, 7.5f, INF}) {
            fraction(due, 7, -0f, size, -size);
            fraction(due, 7, -0f, -size, -size);
            fraction(due, 7, 0f, size, size);
            fraction(due, 7, 0f, -size, size);
        }
    }

    private static void everyKindAndEdge(Due due) {
        for (int wire : Signals.WIRES) {
            for (int kind : Signals.kinds(wire)) {
                for (long knob : Signals.codes(wire)) {
                    for (long s : Signals.codes(wire)) {
                        ask(due, Mirror.through(wire, kind, knob, s), wire, kind, knob, s);
                    }
                }
            }
        }
    }

    public static void main(String[] args) {
        Sentences s = new Sentences();
        s.hold("A PEDAL has a KIND and a KNOB k, and is on or off.", KindsTest::kindKnobOnOrOff);
        s.hold("Off, what comes in goes out.", KindsTest::off);
        s.hold("0 RECTIFY: s without its sign", KindsTest::rectify);
        s.hold("(wires 0, 1: its size;", KindsTest::rectifyWhole);
        s.hold("0 RECTIFY: .. the least one stays itself", KindsTest::leastStaysRectified);
        s.hold("1 AT MOST: the lesser one of s and k. 2 AT LEAST: the greater one. (wires 0, 1)", KindsTest::holdsWhole);
        s.hold("1 AT MOST: the lesser one of s and k. 2 AT LEAST: the greater one. (wires 2, 3)", KindsTest::holdsFractions);
        s.hold("(-0 is less than 0 here.)", KindsTest::zerosHeld);
        s.hold("8 FLIP: s with the other sign", KindsTest::flip);
        s.hold("(wires 0, 1: 0 - s;", KindsTest::flipWhole);
        s.hold("8 FLIP: .. the least one stays itself", KindsTest::leastStaysFlipped);
        s.hold("On wires 2, 3 alone:", KindsTest::onWires2And3Alone);
        s.hold("3 DOWN: the greatest whole number that is not above s.", KindsTest::down);
        s.hold("4 UP: the least one not below s.", KindsTest::up);
        s.hold("5 NEAR: the whole one nearest to s", KindsTest::near);
        s.hold("of two the even one.", KindsTest::ofTwoTheEvenOne);
        s.hold("(These three: infinite ones and 0s stay;", KindsTest::infiniteOnesAndZerosStay);
        s.hold("what gets 0 has the sign of s.)", KindsTest::whatGetsZeroHasTheSign);
        s.hold("6 SIGN: 1 or -1;", KindsTest::sign);
        s.hold("a 0 stays.", KindsTest::signOfZeroStays);
        s.hold("7 POLARITY: the size of s with the sign of k", KindsTest::polarity);
        s.hold("(-0 has one).", KindsTest::minusZeroHasASign);
        s.hold("On, for what comes in, s: (every KIND, every edge)", KindsTest::everyKindAndEdge);
        s.end();
    }
}
