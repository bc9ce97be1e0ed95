/** The section 'Terms', up to the PRESETS: wires, signals, KNOBS, what is ILL, CODES, and how many there are of what. */
public final class SignalsTest {
    private static final int ANY = 0x7fffffff;

    private static void kept(Due due, int wire, int high, int low, long code) {
        PedalBoard x = new PedalBoard();
        String what = "(" + wire + ", " + high + ", " + low + ")";
        due.is(code != 0, "put" + what, () -> x.put(wire, high, low));
        due.is(code, "DRY of put" + what, () -> x.code(wire, 0));
        due.is(code, "WET of put" + what, () -> x.code(wire, 1));
        knobIs(due, wire, high, low, code);
    }

    /** A KNOB shows where it holds a signal: each of the two pedals lets only what is on one side pass. */
    private static void knobIs(Due due, int wire, int high, int low, long code) {
        String what = "knob (" + high + ", " + low + ") of wire " + wire;
        PedalBoard x = new PedalBoard();
        x.pedal(wire, Signals.AT_MOST, high, low);
        x.pedal(wire, Signals.AT_LEAST, high, low);
        x.play(wire, 1);
        due.is(code, "what is held to the " + what, () -> x.code(wire, 1));
        PedalBoard y = new PedalBoard();
        Signals.pedal(y, wire, Signals.AT_MOST, Boards.knob(wire));
        Signals.pedal(y, wire, Signals.AT_LEAST, Boards.knob(wire));
        due.is(true, "turn to the " + what, () -> y.turn(wire, 0, high, low));
        due.is(true, "turn to the " + what, () -> y.turn(wire, 1, high, low));
        due.is(false, "turn to it again", () -> y.turn(wire, 1, high, low));
        y.play(wire, 1);
        due.is(code, "what is held to the turned " + what, () -> y.code(wire, 1));
    }

    private static void fourSorts(Due due) {
        int bits = 0x40200000;
        PedalBoard x = new PedalBoard();
        for (int wire : Signals.WIRES) {
            x.put(wire, bits, bits);
            x.pedal(wire, Signals.FLIP, 0, 0);
            x.play(wire, 1);
        }
        due.is(-1075838976L, "an int, flipped", () -> x.code(0, 1));
        due.is(-0x4020000040200000L, "a long, flipped", () -> x.code(1, 1));
        due.is(Signals.f(-2.5f), "a float, flipped", () -> x.code(2, 1));
        due.is(0xc020000040200000L, "a double, flipped", () -> x.code(3, 1));
    }

    private static void endsOfFractions(Due due) {
        for (float s : new float[] {0f, Float.MIN_VALUE, Float.MIN_NORMAL, Float.MAX_VALUE, Float.POSITIVE_INFINITY}) {
            kept(due, 2, 0, Float.floatToRawIntBits(s), Signals.f(s));
            kept(due, 2, 0, Float.floatToRawIntBits(-s), Signals.f(-s));
        }
        for (double s : new double[] {0d, Double.MIN_VALUE, Double.MIN_NORMAL, Double.MAX_VALUE, Double.POSITIVE_INFINITY}) {
            kept(due, 3, Signals.high(Signals.d(s)), Signals.low(Signals.d(s)), Signals.d(s));
            kept(due, 3, Signals.high(Signals.d(-s)), Signals.low(Signals.d(-s)), Signals.d(-s));
        }
    }

    private static boolean isNumber(int wire, long code) {
        return wire == 2 ? !Float.isNaN(Mirror.asFloat(code)) : wire != 3 || !Double.isNaN(Mirror.asDouble(code));
    }

    private static void neverNotANumber(Due due) {
        for (int wire : Signals.FRACTION_WIRES) {
            for (int kind : Signals.KINDS) {
                for (long knob : Signals.codes(wire)) {
                    PedalBoard x = new PedalBoard();
                    Signals.pedal(x, wire, kind, knob);
                    for (long s : Signals.codes(wire)) {
                        Signals.put(x, wire, s);
                        x.play(wire, 2);
                        due.is(true, "kind " + kind + " with knob " + knob + " of " + s + " makes a number",
                                () -> isNumber(wire, x.code(wire, 1)));
                    }
                }
            }
        }
    }

    private static void onWire0(Due due) {
        for (int high : new int[] {0, -1, ANY, Integer.MIN_VALUE, 0x7ff80000}) {
            kept(due, 0, high, 5, 5);
            kept(due, 0, high, Integer.MIN_VALUE, Integer.MIN_VALUE);
            kept(due, 0, high, Integer.MAX_VALUE, Integer.MAX_VALUE);
            kept(due, 0, high, -1, -1);
            kept(due, 0, high, 0, 0);
        }
    }

    private static void onWire1(Due due) {
        kept(due, 1, 0, 5, 5);
        kept(due, 1, 0, -1, 4294967295L);
        kept(due, 1, 0, Integer.MIN_VALUE, 2147483648L);
        kept(due, 1, 1, 0, 4294967296L);
        kept(due, 1, -1, -1, -1);
        kept(due, 1, -1, 0, -4294967296L);
        kept(due, 1, -1, 1, -4294967295L);
        kept(due, 1, Integer.MIN_VALUE, 0, Long.MIN_VALUE);
        kept(due, 1, Integer.MAX_VALUE, -1, Long.MAX_VALUE);
    }

    private static void onWire2(Due due) {
        for (int high : new int[] {0, -1, ANY, 0x7ff80000, 0x7fc00000}) {
            kept(due, 2, high, 0x3fc00000, Signals.f(1.5f));
            kept(due, 2, high, 0xbfc00000, Signals.f(-1.5f));
            kept(due, 2, high, 0, 0);
        }
    }

    private static void onWire3(Due due) {
        kept(due, 3, 0x3ff80000, 0, Signals.d(1.5));
        kept(due, 3, 0xbff80000, 0, Signals.d(-1.5));
        kept(due, 3, 0x3ff00000, 1, Signals.d(1.0000000000000002));
        kept(due, 3, 0x3fefffff, -1, Signals.d(0.9999999999999999));
        kept(due, 3, 0, 1, Signals.d(Double.MIN_VALUE));
        kept(due, 3, 0, -1, 4294967295L);
        kept(due, 3, 0, 0x7fc00000, 0x7fc00000L);
    }

    private static void ill(Due due) {
        for (int wire : Signals.FRACTION_WIRES) {
            for (long bits : Signals.ills(wire)) {
                PedalBoard x = Boards.played();
                due.illegalArgument("put of " + bits, () -> Signals.put(x, wire, bits));
                due.illegalArgument("pedal with " + bits, () -> Signals.pedal(x, wire, Signals.AT_MOST, bits));
                due.illegalArgument("turn to " + bits, () -> Signals.turn(x, wire, 1, bits));
            }
        }
    }

    private static void nextToIll(Due due) {
        kept(due, 2, 0, 0x7f800000, Signals.f(Float.POSITIVE_INFINITY));
        kept(due, 2, 0, 0xff800000, Signals.f(Float.NEGATIVE_INFINITY));
        kept(due, 3, 0x7ff00000, 0, Signals.d(Double.POSITIVE_INFINITY));
        kept(due, 3, 0xfff00000, 0, Signals.d(Double.NEGATIVE_INFINITY));
        kept(due, 2, 0, 0x80000000, Signals.f(-0f));
        kept(due, 3, 0x80000000, 0, Signals.d(-0d));
    }

    private static void illOnWires2And3Alone(Due due) {
        for (int bits : Signals.FLOAT_ILLS) {
            kept(due, 0, 0, bits, bits);
            kept(due, 1, 0, bits, bits & 0xffffffffL);
            kept(due, 3, 0, bits, bits & 0xffffffffL);
        }
        for (long bits : Signals.DOUBLE_ILLS) {
            kept(due, 0, Signals.high(bits), 7, 7);
            kept(due, 1, Signals.high(bits), Signals.low(bits), bits);
            kept(due, 2, Signals.high(bits), 7, 7);
        }
    }

    private static void codeIsALong(Due due) {
        kept(due, 0, 0, -1, -1L);
        kept(due, 1, -1, -1, -1L);
        kept(due, 2, 0, 0x80000000, -2147483648L);
        kept(due, 2, 0, 0xbf800000, -1082130432L);
        kept(due, 2, 0, 0x3f800000, 1065353216L);
        kept(due, 3, 0x80000000, 0, Long.MIN_VALUE);
        kept(due, 3, 0xbff00000, 0, -4616189618054758400L);
        kept(due, 3, 0x3ff00000, 0, 4607182418800017408L);
    }

    private static void bothZeroAtFirst(Due due) {
        PedalBoard x = new PedalBoard();
        for (int wire : Signals.WIRES) {
            due.is(0L, "DRY of wire " + wire, () -> x.code(wire, 0));
            due.is(0L, "WET of wire " + wire, () -> x.code(wire, 1));
            due.is(false, "put of 0 without a sign on wire " + wire, () -> x.put(wire, 0, 0));
        }
        due.is(true, "put of -0, float", () -> x.put(2, 0, 0x80000000));
        due.is(true, "put of -0, double", () -> x.put(3, 0x80000000, 0));
    }

    private static void atMostTwelve(Due due) {
        for (int wire : Signals.WIRES) {
            PedalBoard x = new PedalBoard();
            for (int i = 0; i < 12; i++) {
                due.is(i, "place " + i + " of wire " + wire, () -> x.pedal(wire, 0, 0, 0));
            }
            due.illegalState("a thirteenth pedal", () -> x.pedal(wire, 0, 0, 0));
            due.is(12, "pedals of wire " + wire, () -> x.about(wire, 0));
            x.save(wire, 0);
            x.recall(wire, 0);
            due.illegalState("a thirteenth pedal behind 12 that are recalled", () -> x.pedal(wire, 0, 0, 0));
        }
    }

    private static void fourPresets(Due due) {
        for (int wire : Signals.WIRES) {
            PedalBoard x = new PedalBoard();
            for (int preset = 0; preset < 4; preset++) {
                int at = preset;
                due.is(at, "save in preset " + at, () -> x.save(wire, at));
                x.pedal(wire, 0, 0, 0);
            }
            for (int preset = 3; preset >= 0; preset--) {
                int at = preset;
                due.is(at, "recall of preset " + at, () -> x.recall(wire, at));
            }
            due.illegalArgument("a preset below the first", () -> x.save(wire, -1));
            due.illegalArgument("a fifth preset", () -> x.save(wire, 4));
        }
    }

    private static void presetsEmptyAtFirst(Due due) {
        for (int wire : Signals.WIRES) {
            PedalBoard x = new PedalBoard();
            for (int preset = 0; preset < 4; preset++) {
                int at = preset;
                x.pedal(wire, 0, 0, 0);
                due.is(0, "recall of preset " + at + " of wire " + wire, () -> x.recall(wire, at));
                due.is(0, "pedals of wire " + wire + " then", () -> x.about(wire, 0));
            }
        }
    }

    public static void main(String[] args) {
        Sentences s = new Sentences();
        s.hold("WIRES: 0 int, 1 long, 2 float, 3 double", SignalsTest::fourSorts);
        s.hold("infinite ones and -0 too", SignalsTest::endsOfFractions);
        s.hold("never what is not a number", SignalsTest::neverNotANumber);
        s.hold("on wire 0 it is LOW", SignalsTest::onWire0);
        s.hold("on 1 HIGH, and LOW as its lower 32 bits", SignalsTest::onWire1);
        s.hold("on 2 the float with the bits LOW", SignalsTest::onWire2);
        s.hold("on 3 the double with the bits HIGH, then LOW.", SignalsTest::onWire3);
        s.hold("It is ILL if these bits are not a number", SignalsTest::ill);
        s.hold("It is ILL if these bits are not a number (and infinite ones and 0s are numbers)", SignalsTest::nextToIll);
        s.hold("(wires 2, 3 alone)", SignalsTest::illOnWires2And3Alone);
        s.hold("Its CODE is a long: on wires 0, 1 itself, on 2 its bits as an int, on 3 its bits.", SignalsTest::codeIsALong);
        s.hold("Each wire has a DRY signal and a WET one, both 0 (without a sign) at first", SignalsTest::bothZeroAtFirst);
        s.hold("PEDALS 0, 1, .. , at most 12", SignalsTest::atMostTwelve);
        s.hold("four PRESETS", SignalsTest::fourPresets);
        s.hold("four PRESETS, empty at first", SignalsTest::presetsEmptyAtFirst);
        s.end();
    }
}
