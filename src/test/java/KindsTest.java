/** The kinds of pedals, as 'Terms' has them: each kind on each wire, with every edge signal and knob. */
public final class KindsTest {
    private static final Due due = new Due();

    /** What comes out of one pedal; asked by an object of its own, so that no run gets long. */
    private static void ask(long want, int wire, int kind, long knob, long s) {
        PedalBoard x = new PedalBoard();
        Signals.pedal(x, wire, kind, knob);
        Signals.put(x, wire, s);
        String what = "kind " + kind + " on wire " + wire + " with knob " + knob + " of " + s;
        due.is(want == s ? 0 : 1, "changes by " + what, () -> x.play(wire, 1));
        due.is(want, what, () -> x.code(wire, 1));
        x.tap(wire, 0);
        Signals.put(x, wire, s);
        x.play(wire, 1);
        due.is(s, "off, " + what, () -> x.code(wire, 1));
    }

    private static void everyKindAndEdge() {
        for (int wire = 0; wire < 4; wire++) {
            for (int kind = 0; kind < 9; kind++) {
                if (wire < 2 && kind >= Signals.DOWN && kind <= Signals.POLARITY) {
                    continue;
                }
                for (long knob : Signals.codes(wire)) {
                    for (long s : Signals.codes(wire)) {
                        ask(Mirror.through(wire, kind, knob, s), wire, kind, knob, s);
                    }
                }
            }
        }
    }

    private static void floats(int kind, float knob, float s, float want) {
        ask(Signals.f(want), 2, kind, Signals.f(knob), Signals.f(s));
        ask(Signals.d(want), 3, kind, Signals.d(knob), Signals.d(s));
    }

    private static void ints(int kind, int knob, int s, int want) {
        ask(want, 0, kind, knob, s);
        ask(want, 1, kind, knob, s);
    }

    private static void wholeByHand() {
        ints(Signals.RECTIFY, 0, -5, 5);
        ints(Signals.AT_MOST, 3, 5, 3);
        ints(Signals.AT_MOST, 3, -5, -5);
        ints(Signals.AT_LEAST, 3, 5, 5);
        ints(Signals.AT_LEAST, 3, -5, 3);
        ints(Signals.FLIP, 0, 5, -5);
        ints(Signals.FLIP, 0, 0, 0);
        ask(Integer.MIN_VALUE, 0, Signals.RECTIFY, 0, Integer.MIN_VALUE);
        ask(Integer.MIN_VALUE, 0, Signals.FLIP, 0, Integer.MIN_VALUE);
        ask(2147483648L, 1, Signals.FLIP, 0, Integer.MIN_VALUE);
        ask(Long.MIN_VALUE, 1, Signals.RECTIFY, 0, Long.MIN_VALUE);
        ask(Long.MIN_VALUE, 1, Signals.FLIP, 0, Long.MIN_VALUE);
    }

    private static void floatsByHand() {
        float inf = Float.POSITIVE_INFINITY;
        floats(Signals.RECTIFY, 0f, -0f, 0f);
        floats(Signals.RECTIFY, 0f, -inf, inf);
        floats(Signals.AT_MOST, -0f, 0f, -0f);
        floats(Signals.AT_MOST, 0f, -0f, -0f);
        floats(Signals.AT_LEAST, -0f, 0f, 0f);
        floats(Signals.AT_LEAST, 0f, -0f, 0f);
        floats(Signals.DOWN, 0f, 0.5f, 0f);
        floats(Signals.DOWN, 0f, -0.5f, -1f);
        floats(Signals.DOWN, 0f, -0f, -0f);
        floats(Signals.DOWN, 0f, -inf, -inf);
        floats(Signals.DOWN, 0f, -Float.MIN_VALUE, -1f);
        floats(Signals.UP, 0f, 0.5f, 1f);
        floats(Signals.UP, 0f, -0.5f, -0f);
        floats(Signals.UP, 0f, 1.5f, 2f);
        floats(Signals.UP, 0f, Float.MIN_VALUE, 1f);
        floats(Signals.NEAR, 0f, 0.5f, 0f);
        floats(Signals.NEAR, 0f, -0.5f, -0f);
        floats(Signals.NEAR, 0f, 0.50000006f, 1f);
        floats(Signals.NEAR, 0f, 1.5f, 2f);
        floats(Signals.NEAR, 0f, 2.5f, 2f);
        floats(Signals.NEAR, 0f, -3.5f, -4f);
        floats(Signals.NEAR, 0f, inf, inf);
        floats(Signals.SIGN, 0f, -7.5f, -1f);
        floats(Signals.SIGN, 0f, Float.MIN_VALUE, 1f);
        floats(Signals.SIGN, 0f, -0f, -0f);
        floats(Signals.SIGN, 0f, -inf, -1f);
        floats(Signals.POLARITY, -0f, 7.5f, -7.5f);
        floats(Signals.POLARITY, 0f, -7.5f, 7.5f);
        floats(Signals.POLARITY, -3f, 0f, -0f);
        floats(Signals.POLARITY, 3f, -inf, inf);
        floats(Signals.FLIP, 0f, 0f, -0f);
        floats(Signals.FLIP, 0f, -inf, inf);
    }

    public static void main(String[] args) {
        everyKindAndEdge();
        wholeByHand();
        floatsByHand();
        due.end();
    }
}
