/** Promise 14: patch. */
public final class P14PatchTest {
    private static final double INF = Double.POSITIVE_INFINITY;

    private static void cast(Due due, int from, long code, int to, long want) {
        PedalBoard x = new PedalBoard();
        Signals.put(x, from, code);
        String what = "patch of " + code + " from " + from + " to " + to;
        due.is(want, what, () -> x.patch(from, to));
        due.is(want, "DRY behind " + what, () -> x.code(to, 0));
        due.is(want, "WET behind " + what, () -> x.code(to, 1));
    }

    private static void theWet(Due due) {
        for (int from : Signals.WIRES) {
            for (int to : Signals.WIRES) {
                PedalBoard x = new PedalBoard();
                Signals.put(x, from, Signals.code(from, -9));
                Signals.put(x, to, Signals.code(to, -9));
                x.pedal(from, Signals.FLIP, 0, 0);
                x.play(from, 1);
                due.is(Signals.code(to, 9), "patch of WET 9, DRY is -9", () -> x.patch(from, to));
                due.is(Signals.code(to, 9), "DRY there", () -> x.code(to, 0));
                due.is(Signals.code(to, 9), "WET there", () -> x.code(to, 1));
            }
        }
    }

    private static void asPutDoes(Due due) {
        for (int from : Signals.WIRES) {
            for (int to : Signals.WIRES) {
                PedalBoard x = Boards.played();
                x.patch(from, to);
                due.is(0, "ROUNDS there", () -> x.about(to, 3));
                due.illegalState("the greatest PEAK there", () -> x.code(to, 2));
                due.illegalState("the least PEAK there", () -> x.code(to, 3));
                due.illegalState("trace there", () -> x.trace(to, 0));
                due.is(false, "light there", () -> x.light(to, 2));
                due.is(0, "lights there", () -> x.about(to, 2));
                due.is(0, "against there", () -> x.against(to));
                due.is(3, "pedals there", () -> x.about(to, 0));
                due.is(false, "put there of the same", () -> Signals.put(x, to, x.code(to, 1)));
            }
        }
    }

    private static void fromStays(Due due) {
        for (int from : Signals.WIRES) {
            for (int to : Signals.WIRES) {
                if (from == to) {
                    continue;
                }
                PedalBoard x = Boards.played();
                long wet = x.code(from, 1);
                x.patch(from, to);
                due.is(2, "ROUNDS where it came from", () -> x.about(from, 3));
                due.is(Boards.signal(from), "DRY where it came from", () -> x.code(from, 0));
                due.is(wet, "WET where it came from", () -> x.code(from, 1));
                due.is(wet, "PEAK where it came from", () -> x.code(from, 2));
                due.is(wet, "trace where it came from", () -> x.trace(from, 2));
            }
        }
    }

    private static void theSameWire(Due due) {
        for (int wire : Signals.WIRES) {
            for (long code : Signals.codes(wire)) {
                cast(due, wire, code, wire, code);
            }
            PedalBoard x = Boards.played();
            long wet = x.code(wire, 1);
            due.is(wet, "patch to the same wire", () -> x.patch(wire, wire));
            due.is(wet, "DRY then", () -> x.code(wire, 0));
            due.is(0, "ROUNDS then", () -> x.about(wire, 3));
            due.illegalState("PEAK then", () -> x.code(wire, 2));
        }
    }

    private static void intToLong(Due due) {
        cast(due, 0, Integer.MIN_VALUE, 1, Integer.MIN_VALUE);
        cast(due, 0, Integer.MAX_VALUE, 1, Integer.MAX_VALUE);
        cast(due, 0, -1, 1, -1);
        cast(due, 0, 0, 1, 0);
    }

    private static void longToIntWrapsAround(Due due) {
        cast(due, 1, Integer.MAX_VALUE, 0, Integer.MAX_VALUE);
        cast(due, 1, Integer.MAX_VALUE + 1L, 0, Integer.MIN_VALUE);
        cast(due, 1, Integer.MIN_VALUE, 0, Integer.MIN_VALUE);
        cast(due, 1, Integer.MIN_VALUE - 1L, 0, Integer.MAX_VALUE);
        cast(due, 1, 0xffffffffL, 0, -1);
        cast(due, 1, 0x100000000L, 0, 0);
        cast(due, 1, 0x100000001L, 0, 1);
        cast(due, 1, Long.MAX_VALUE, 0, -1);
        cast(due, 1, Long.MIN_VALUE, 0, 0);
        cast(due, 1, Long.MIN_VALUE + 5, 0, 5);
    }

    private static void intToFraction(Due due) {
        for (int sign = -1; sign <= 1; sign += 2) {
            cast(due, 0, sign * 16777216, 2, Signals.f(sign * 16777216f));
            cast(due, 0, sign * 16777217, 2, Signals.f(sign * 16777216f));
            cast(due, 0, sign * 16777219, 2, Signals.f(sign * 16777220f));
            cast(due, 0, sign * 2147483583, 2, Signals.f(sign * 2147483520f));
            cast(due, 0, sign * 2147483584, 2, Signals.f(sign * 2147483648f));
            cast(due, 0, sign * Integer.MAX_VALUE, 2, Signals.f(sign * 2147483648f));
            cast(due, 0, sign * Integer.MAX_VALUE, 3, Signals.d(sign * 2147483647d));
            cast(due, 0, sign, 2, Signals.f(sign));
            cast(due, 0, sign, 3, Signals.d(sign));
        }
        cast(due, 0, Integer.MIN_VALUE, 2, Signals.f(-2147483648f));
        cast(due, 0, Integer.MIN_VALUE, 3, Signals.d(-2147483648d));
    }

    private static void longToFraction(Due due) {
        for (int sign = -1; sign <= 1; sign += 2) {
            cast(due, 1, sign * 9007199254740992L, 3, Signals.d(sign * 9007199254740992d));
            cast(due, 1, sign * 9007199254740993L, 3, Signals.d(sign * 9007199254740992d));
            cast(due, 1, sign * 9007199254740995L, 3, Signals.d(sign * 9007199254740996d));
            cast(due, 1, sign * (Long.MAX_VALUE - 512), 3, Signals.d(sign * 9223372036854774784d));
            cast(due, 1, sign * (Long.MAX_VALUE - 511), 3, Signals.d(sign * 9223372036854775808d));
            cast(due, 1, sign * Long.MAX_VALUE, 3, Signals.d(sign * 9223372036854775808d));
            cast(due, 1, sign * Long.MAX_VALUE, 2, Signals.f(sign * 9223372036854775808f));
            cast(due, 1, sign * 16777217L, 2, Signals.f(sign * 16777216f));
            // Just above the half: a way over the double would come to the half, and to the even one below.
            cast(due, 1, sign * ((1L << 60) + (1L << 36) + 1), 2, Signals.f(sign * Math.nextUp(0x1p60f)));
            cast(due, 1, sign * ((1L << 60) + (1L << 36)), 2, Signals.f(sign * 0x1p60f));
        }
        cast(due, 1, Long.MIN_VALUE, 2, Signals.f(-9223372036854775808f));
        cast(due, 1, Long.MIN_VALUE, 3, Signals.d(-9223372036854775808d));
    }

    private static void zeros(Due due) {
        for (int wire : Signals.WHOLE_WIRES) {
            cast(due, wire, 0, 2, 0);
            cast(due, wire, 0, 3, 0);
            cast(due, 2, Signals.f(-0f), wire, 0);
            cast(due, 3, Signals.d(-0d), wire, 0);
        }
        cast(due, 2, Signals.f(-0f), 3, Signals.d(-0d));
        cast(due, 3, Signals.d(-0d), 2, Signals.f(-0f));
        cast(due, 2, Signals.f(0f), 3, Signals.d(0d));
        cast(due, 3, Signals.d(0d), 2, Signals.f(0f));
    }

    private static void fractionsAreCutOff(Due due) {
        for (int from : Signals.FRACTION_WIRES) {
            for (int to : Signals.WHOLE_WIRES) {
                for (int sign = -1; sign <= 1; sign += 2) {
                    cast(due, from, Signals.code(from, sign * 0.99999994), to, 0);
                    cast(due, from, Signals.code(from, sign * 1d), to, sign);
                    cast(due, from, Signals.code(from, sign * 2.5), to, sign * 2);
                    cast(due, from, Signals.code(from, sign * 2.75), to, sign * 2);
                    cast(due, from, Signals.code(from, sign * (double) Float.MIN_VALUE), to, 0);
                    cast(due, from, Signals.code(from, sign * 8388607.5), to, sign * 8388607);
                    cast(due, from, Signals.code(from, sign * 16777216d), to, sign * 16777216);
                }
            }
        }
        cast(due, 3, Signals.d(4503599627370495.5), 1, 4503599627370495L);
        cast(due, 3, Signals.d(-9007199254740993d), 1, -9007199254740992L);
        cast(due, 3, Signals.d(Double.MIN_VALUE), 1, 0);
    }

    private static void endsOfInt(Due due) {
        cast(due, 3, Signals.d(2147483646.5), 0, 2147483646);
        cast(due, 3, Signals.d(2147483647d), 0, Integer.MAX_VALUE);
        cast(due, 3, Signals.d(2147483647.5), 0, Integer.MAX_VALUE);
        cast(due, 3, Signals.d(2147483648d), 0, Integer.MAX_VALUE);
        cast(due, 3, Signals.d(4294967296d), 0, Integer.MAX_VALUE);
        cast(due, 3, Signals.d(-2147483647.5), 0, -2147483647);
        cast(due, 3, Signals.d(-2147483648d), 0, Integer.MIN_VALUE);
        cast(due, 3, Signals.d(-2147483648.5), 0, Integer.MIN_VALUE);
        cast(due, 3, Signals.d(-2147483649d), 0, Integer.MIN_VALUE);
        cast(due, 3, Signals.d(-4294967297d), 0, Integer.MIN_VALUE);
        cast(due, 2, Signals.f(2147483520f), 0, 2147483520);
        cast(due, 2, Signals.f(2147483648f), 0, Integer.MAX_VALUE);
        cast(due, 2, Signals.f(-2147483520f), 0, -2147483520);
        cast(due, 2, Signals.f(-2147483648f), 0, Integer.MIN_VALUE);
        cast(due, 2, Signals.f(-2147483904f), 0, Integer.MIN_VALUE);
        for (int from : Signals.FRACTION_WIRES) {
            cast(due, from, Signals.code(from, INF), 0, Integer.MAX_VALUE);
            cast(due, from, Signals.code(from, -INF), 0, Integer.MIN_VALUE);
            cast(due, from, Signals.code(from, Float.MAX_VALUE), 0, Integer.MAX_VALUE);
            cast(due, from, Signals.code(from, -Float.MAX_VALUE), 0, Integer.MIN_VALUE);
        }
    }

    private static void endsOfLong(Due due) {
        cast(due, 3, Signals.d(9223372036854774784d), 1, 9223372036854774784L);
        cast(due, 3, Signals.d(9223372036854775808d), 1, Long.MAX_VALUE);
        cast(due, 3, Signals.d(-9223372036854774784d), 1, -9223372036854774784L);
        cast(due, 3, Signals.d(-9223372036854775808d), 1, Long.MIN_VALUE);
        cast(due, 3, Signals.d(-9223372036854777856d), 1, Long.MIN_VALUE);
        cast(due, 3, Signals.d(18446744073709551616d), 1, Long.MAX_VALUE);
        cast(due, 2, Signals.f(9223371487098961920f), 1, 9223371487098961920L);
        cast(due, 2, Signals.f(9223372036854775808f), 1, Long.MAX_VALUE);
        cast(due, 2, Signals.f(-9223372036854775808f), 1, Long.MIN_VALUE);
        cast(due, 2, Signals.f(-9223373136366403584f), 1, Long.MIN_VALUE);
        for (int from : Signals.FRACTION_WIRES) {
            cast(due, from, Signals.code(from, INF), 1, Long.MAX_VALUE);
            cast(due, from, Signals.code(from, -INF), 1, Long.MIN_VALUE);
            cast(due, from, Signals.code(from, Float.MAX_VALUE), 1, Long.MAX_VALUE);
            cast(due, from, Signals.code(from, -Float.MAX_VALUE), 1, Long.MIN_VALUE);
        }
    }

    private static void floatToDouble(Due due) {
        for (int sign = -1; sign <= 1; sign += 2) {
            cast(due, 2, Signals.f(sign * 1.5f), 3, Signals.d(sign * 1.5));
            cast(due, 2, Signals.f(sign * Float.MIN_VALUE), 3, Signals.d(sign * 0x1p-149));
            cast(due, 2, Signals.f(sign * 3 * Float.MIN_VALUE), 3, Signals.d(sign * 0x1.8p-148));
            cast(due, 2, Signals.f(sign * Math.nextDown(Float.MIN_NORMAL)), 3, Signals.d(sign * 0x1.fffffcp-127));
            cast(due, 2, Signals.f(sign * Float.MIN_NORMAL), 3, Signals.d(sign * 0x1p-126));
            cast(due, 2, Signals.f(sign * Float.MAX_VALUE), 3, Signals.d(sign * 0x1.fffffep127));
            cast(due, 2, Signals.f(sign * Float.POSITIVE_INFINITY), 3, Signals.d(sign * INF));
        }
    }

    private static void doubleToFloatNearest(Due due) {
        for (int sign = -1; sign <= 1; sign += 2) {
            cast(due, 3, Signals.d(sign * 1.5), 2, Signals.f(sign * 1.5f));
            cast(due, 3, Signals.d(sign * 0x1.000001p0), 2, Signals.f(sign * 1f));
            cast(due, 3, Signals.d(sign * Math.nextUp(0x1.000001p0)), 2, Signals.f(sign * 0x1.000002p0f));
            cast(due, 3, Signals.d(sign * Math.nextDown(0x1.000001p0)), 2, Signals.f(sign * 1f));
            cast(due, 3, Signals.d(sign * 0x1.000003p0), 2, Signals.f(sign * 0x1.000004p0f));
            cast(due, 3, Signals.d(sign * Math.nextDown(2d)), 2, Signals.f(sign * 2f));
        }
    }

    private static void doubleToFloatTooLarge(Due due) {
        for (int sign = -1; sign <= 1; sign += 2) {
            cast(due, 3, Signals.d(sign * 0x1.fffffep127), 2, Signals.f(sign * Float.MAX_VALUE));
            cast(due, 3, Signals.d(sign * Math.nextDown(0x1.ffffffp127)), 2, Signals.f(sign * Float.MAX_VALUE));
            cast(due, 3, Signals.d(sign * 0x1.ffffffp127), 2, Signals.f(sign * Float.POSITIVE_INFINITY));
            cast(due, 3, Signals.d(sign * 0x1p128), 2, Signals.f(sign * Float.POSITIVE_INFINITY));
            cast(due, 3, Signals.d(sign * Double.MAX_VALUE), 2, Signals.f(sign * Float.POSITIVE_INFINITY));
            cast(due, 3, Signals.d(sign * INF), 2, Signals.f(sign * Float.POSITIVE_INFINITY));
        }
    }

    private static void doubleToFloatTooSmall(Due due) {
        for (int sign = -1; sign <= 1; sign += 2) {
            cast(due, 3, Signals.d(sign * 0x1p-126), 2, Signals.f(sign * Float.MIN_NORMAL));
            cast(due, 3, Signals.d(sign * 0x1.ffffffp-127), 2, Signals.f(sign * Float.MIN_NORMAL));
            cast(due, 3, Signals.d(sign * Math.nextDown(0x1.fffffep-127)), 2, Signals.f(sign * 0x1.fffffcp-127f));
            cast(due, 3, Signals.d(sign * 0x1p-149), 2, Signals.f(sign * Float.MIN_VALUE));
            cast(due, 3, Signals.d(sign * 0x1.8p-149), 2, Signals.f(sign * 2 * Float.MIN_VALUE));
            cast(due, 3, Signals.d(sign * Math.nextUp(0x1p-150)), 2, Signals.f(sign * Float.MIN_VALUE));
            cast(due, 3, Signals.d(sign * 0x1p-150), 2, Signals.f(sign * 0f));
            cast(due, 3, Signals.d(sign * 0x1.fp-151), 2, Signals.f(sign * 0f));
            cast(due, 3, Signals.d(sign * Double.MIN_NORMAL), 2, Signals.f(sign * 0f));
            cast(due, 3, Signals.d(sign * Double.MIN_VALUE), 2, Signals.f(sign * 0f));
        }
    }

    private static void everyEdge(Due due) {
        for (int from : Signals.WIRES) {
            for (int to : Signals.WIRES) {
                for (long code : Signals.codes(from)) {
                    cast(due, from, code, to, Mirror.cast(from, to, code));
                }
            }
        }
    }

    private static void fromIsNoWire(Due due) {
        for (int from : Signals.NO_WIRES) {
            for (int to : Signals.WIRES) {
                Refusals.illegalArgument(due, "patch from " + from + " to " + to, x -> x.patch(from, to));
            }
        }
    }

    private static void toIsNoWire(Due due) {
        for (int to : Signals.NO_WIRES) {
            for (int from : Signals.WIRES) {
                Refusals.illegalArgument(due, "patch from " + from + " to " + to, x -> x.patch(from, to));
            }
        }
    }

    private static void bothAreNoWires(Due due) {
        for (int from : Signals.NO_WIRES) {
            for (int to : Signals.NO_WIRES) {
                Refusals.illegalArgument(due, "patch from " + from + " to " + to, x -> x.patch(from, to));
            }
        }
    }

    public static void main(String[] args) {
        Sentences s = new Sentences();
        s.hold("The WET of a wire .. its CODE there.", P14PatchTest::theWet);
        s.hold("comes, as put() does", P14PatchTest::asPutDoes);
        s.hold("The WET of a wire comes (and stays where it came from)", P14PatchTest::fromStays);
        s.hold("(or the same)", P14PatchTest::theSameWire);
        s.hold("as a cast to its sort makes it: int to long", P14PatchTest::intToLong);
        s.hold("as a cast to its sort makes it: long to int, which wraps around", P14PatchTest::longToIntWrapsAround);
        s.hold("as a cast to its sort makes it: int to float and double", P14PatchTest::intToFraction);
        s.hold("as a cast to its sort makes it: long to float and double", P14PatchTest::longToFraction);
        s.hold("as a cast to its sort makes it: 0 and -0", P14PatchTest::zeros);
        s.hold("as a cast to its sort makes it: fractions are cut off", P14PatchTest::fractionsAreCutOff);
        s.hold("as a cast to its sort makes it: the ends of int", P14PatchTest::endsOfInt);
        s.hold("as a cast to its sort makes it: the ends of long", P14PatchTest::endsOfLong);
        s.hold("as a cast to its sort makes it: float to double", P14PatchTest::floatToDouble);
        s.hold("as a cast to its sort makes it: double to float, the nearest", P14PatchTest::doubleToFloatNearest);
        s.hold("as a cast to its sort makes it: double to float, too large", P14PatchTest::doubleToFloatTooLarge);
        s.hold("as a cast to its sort makes it: double to float, too small", P14PatchTest::doubleToFloatTooSmall);
        s.hold("as a cast to its sort makes it: every edge signal", P14PatchTest::everyEdge);
        s.hold("IllegalArgumentException: one of them is no wire. (the first)", P14PatchTest::fromIsNoWire);
        s.hold("IllegalArgumentException: one of them is no wire. (the second)", P14PatchTest::toIsNoWire);
        s.hold("IllegalArgumentException: one of them is no wire. (both)", P14PatchTest::bothAreNoWires);
        s.end();
    }
}
