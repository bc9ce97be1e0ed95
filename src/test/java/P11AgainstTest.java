/** Promise 11: against. */
public final class P11AgainstTest {
    /** WET comes from DRY by a pedal that holds it, so that it is just the one wanted. */
    private static void ask(Due due, int want, int wire, long dry, long wet) {
        PedalBoard x = new PedalBoard();
        Signals.put(x, wire, dry);
        Signals.pedal(x, wire, Mirror.compare(wire, wet, dry) < 0 ? Signals.AT_MOST : Signals.AT_LEAST, wet);
        x.play(wire, 1);
        due.is(wet, "WET", () -> x.code(wire, 1));
        due.is(want, "against on wire " + wire + ", DRY " + dry + ", WET " + wet, () -> x.against(wire));
    }

    private static void theSameCode(Due due) {
        for (int wire : Signals.WIRES) {
            for (long code : Signals.codes(wire)) {
                ask(due, 0, wire, code, code);
                PedalBoard x = new PedalBoard();
                Signals.put(x, wire, code);
                due.is(0, "against behind put of " + code, () -> x.against(wire));
            }
        }
    }

    private static long[][] neighbours(int wire) {
        switch (wire) {
            case 0:
                return new long[][] {{1, 2}, {-2, -1}, {-1, 0}, {0, 1}, {-1, 1}, {Integer.MIN_VALUE, 0},
                    {Integer.MIN_VALUE, Integer.MIN_VALUE + 1}, {Integer.MAX_VALUE - 1, Integer.MAX_VALUE},
                    {Integer.MIN_VALUE, Integer.MAX_VALUE}, {Integer.MIN_VALUE, 1}, {-2, Integer.MAX_VALUE}};
            case 1:
                return new long[][] {{1, 2}, {-2, -1}, {-1, 0}, {0, 1}, {1, 1L << 40}, {0xffffffffL, 0x100000000L},
                    {0x7fffffffL, 0x80000000L}, {-0x80000001L, -0x80000000L}, {Long.MIN_VALUE, 0}, {Long.MIN_VALUE, 1},
                    {Long.MIN_VALUE, Long.MIN_VALUE + 1}, {Long.MAX_VALUE - 1, Long.MAX_VALUE}, {Long.MIN_VALUE, Long.MAX_VALUE}};
            case 2:
                return ofFloats(1f, 2f, -2f, -1f, -2f, 1f, 1f, Math.nextUp(1f), -Math.nextUp(1f), -1f,
                        0f, Float.MIN_VALUE, -0f, Float.MIN_VALUE, -Float.MIN_VALUE, 0f, -Float.MIN_VALUE, -0f,
                        Float.MAX_VALUE, Float.POSITIVE_INFINITY, Float.NEGATIVE_INFINITY, -Float.MAX_VALUE,
                        Float.NEGATIVE_INFINITY, Float.POSITIVE_INFINITY);
            default:
                return ofDoubles(1d, 2d, -2d, -1d, -2d, 1d, 1d, Math.nextUp(1d), -Math.nextUp(1d), -1d,
                        0d, Double.MIN_VALUE, -0d, Double.MIN_VALUE, -Double.MIN_VALUE, 0d, -Double.MIN_VALUE, -0d,
                        Double.MAX_VALUE, Double.POSITIVE_INFINITY, Double.NEGATIVE_INFINITY, -Double.MAX_VALUE,
                        Double.NEGATIVE_INFINITY, Double.POSITIVE_INFINITY);
        }
    }

    private static long[][] ofFloats(float... pairs) {
        long[][] codes = new long[pairs.length / 2][];
        for (int i = 0; i < codes.length; i++) {
            codes[i] = new long[] {Signals.f(pairs[2 * i]), Signals.f(pairs[2 * i + 1])};
        }
        return codes;
    }

    private static long[][] ofDoubles(double... pairs) {
        long[][] codes = new long[pairs.length / 2][];
        for (int i = 0; i < codes.length; i++) {
            codes[i] = new long[] {Signals.d(pairs[2 * i]), Signals.d(pairs[2 * i + 1])};
        }
        return codes;
    }

    private static void less(Due due) {
        for (int wire : Signals.WIRES) {
            for (long[] pair : neighbours(wire)) {
                ask(due, -1, wire, pair[1], pair[0]);
            }
        }
    }

    private static void greater(Due due) {
        for (int wire : Signals.WIRES) {
            for (long[] pair : neighbours(wire)) {
                ask(due, 1, wire, pair[0], pair[1]);
            }
        }
    }

    private static void unlikeZeros(Due due) {
        ask(due, 2, 2, Signals.f(0f), Signals.f(-0f));
        ask(due, 2, 2, Signals.f(-0f), Signals.f(0f));
        ask(due, 2, 3, Signals.d(0d), Signals.d(-0d));
        ask(due, 2, 3, Signals.d(-0d), Signals.d(0d));
    }

    private static void alikeZeros(Due due) {
        ask(due, 0, 0, 0, 0);
        ask(due, 0, 1, 0, 0);
        ask(due, 0, 2, Signals.f(-0f), Signals.f(-0f));
        ask(due, 0, 2, Signals.f(0f), Signals.f(0f));
        ask(due, 0, 3, Signals.d(-0d), Signals.d(-0d));
        ask(due, 0, 3, Signals.d(0d), Signals.d(0d));
    }

    private static void noWire(Due due) {
        for (int wire : Signals.NO_WIRES) {
            Refusals.illegalArgument(due, "against of wire " + wire, x -> x.against(wire));
        }
    }

    public static void main(String[] args) {
        Sentences s = new Sentences();
        s.hold("WET against DRY: 0 the same CODE;", P11AgainstTest::theSameCode);
        s.hold("-1 less", P11AgainstTest::less);
        s.hold("1 greater;", P11AgainstTest::greater);
        s.hold("2 both are 0, with unlike signs.", P11AgainstTest::unlikeZeros);
        s.hold("0 the same CODE; (both are 0, with like signs)", P11AgainstTest::alikeZeros);
        s.hold("IllegalArgumentException: no wire.", P11AgainstTest::noWire);
        s.end();
    }
}
