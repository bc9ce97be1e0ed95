/** Signals as plain numbers, for the tests: what put, pedal and turn take as two ints. */
final class Signals {
    static final int INT = 0;
    static final int LONG = 1;
    static final int FLOAT = 2;
    static final int DOUBLE = 3;

    static final int RECTIFY = 0;
    static final int AT_MOST = 1;
    static final int AT_LEAST = 2;
    static final int DOWN = 3;
    static final int UP = 4;
    static final int NEAR = 5;
    static final int SIGN = 6;
    static final int POLARITY = 7;
    static final int FLIP = 8;

    static final int[] WIRES = {INT, LONG, FLOAT, DOUBLE};
    static final int[] WHOLE_WIRES = {INT, LONG};
    static final int[] FRACTION_WIRES = {FLOAT, DOUBLE};
    static final int[] NO_WIRES = {-1, 4, 5, Integer.MIN_VALUE, Integer.MAX_VALUE};

    static final int[] WHOLE_KINDS = {RECTIFY, AT_MOST, AT_LEAST, FLIP};
    static final int[] FRACTION_KINDS = {DOWN, UP, NEAR, SIGN, POLARITY};
    static final int[] KINDS = {RECTIFY, AT_MOST, AT_LEAST, DOWN, UP, NEAR, SIGN, POLARITY, FLIP};

    static final float[] FLOATS = {
        0f, 1f, 0.5f, 1.5f, 2.5f, 3.5f, 0.25f, 0.75f, 0.99999994f, 1.0000001f, 0.49999997f, 0.50000006f,
        2f, 3f, 100.5f, 101.5f, 4194303.5f, 4194304.5f, 8388607.5f, 8388608f, 8388609f, 16777216f,
        1e10f, 2147483520f, 2147483648f, 4294967296f, 9.223371e18f, 9.223372e18f, 1.8446744e19f, 1e30f,
        Float.MIN_VALUE, Float.MIN_NORMAL, 1.1754942e-38f, 1e-40f, Float.MAX_VALUE, Float.POSITIVE_INFINITY,
    };

    static final double[] DOUBLES = {
        0d, 1d, 0.5, 1.5, 2.5, 3.5, 0.25, 0.75, 0.9999999999999999, 1.0000000000000002, 0.49999999999999994,
        0.5000000000000001, 2d, 3d, 100.5, 101.5, 2251799813685247.5, 2251799813685248.5, 4503599627370495.5,
        4503599627370496.0, 9007199254740993.0, 1e10, 2147483647.0, 2147483647.5, 2147483648.0, 2147483649.5,
        4294967296.5, 9.223372036854775e18, 9.223372036854775807e18, 1e19, 1e30, 1e300,
        16777217.0, 16777219.0, 3.4028234663852886e38, 3.4028235677973362e38, 3.4028235677973366e38,
        3.402823567797337e38, 1e39, Float.MIN_VALUE, Float.MIN_VALUE * 0.5, Float.MIN_VALUE * 0.5000000001,
        Float.MIN_VALUE * 1.5, Float.MIN_VALUE * 0.25, Float.MIN_NORMAL, Float.MIN_NORMAL * 0.99999999,
        1.17549431e-38, 1e-40, 1e-45, 1e-46, 1e-300, Double.MIN_VALUE, Double.MIN_NORMAL,
        2.225073858507201e-308, Double.MAX_VALUE, Double.POSITIVE_INFINITY,
    };

    static final int[] INTS = {
        0, 1, 2, 3, 5, 100, 16777215, 16777216, 16777217, 16777218, 16777219, 33554431, 33554434, 33554435,
        1 << 30, Integer.MAX_VALUE - 64, Integer.MAX_VALUE - 63, Integer.MAX_VALUE - 1, Integer.MAX_VALUE,
        Integer.MIN_VALUE, Integer.MIN_VALUE + 1,
    };

    static final long[] LONGS = {
        0, 1, 2, 3, 5, 100, 16777217, 16777219, 0x7fffffffL, 0x80000000L, 0xffffffffL, 0x100000000L, 0x180000000L,
        (1L << 53) - 1, 1L << 53, (1L << 53) + 1, (1L << 53) + 2, (1L << 53) + 3, (1L << 54) + 2, (1L << 54) + 6,
        (1L << 62) + (1L << 38), (1L << 62) + (1L << 38) + 1, (1L << 62) + (1L << 39), (1L << 62) + 3 * (1L << 38),
        Long.MAX_VALUE, Long.MAX_VALUE - 1, Long.MAX_VALUE - 511, Long.MAX_VALUE - 512, Long.MAX_VALUE - 1024,
        Long.MIN_VALUE, Long.MIN_VALUE + 1,
    };

    /** The first and the last bits of each sign that are not a number, and some between them. */
    static final int[] FLOAT_ILLS = {0x7f800001, 0x7fc00000, 0x7fffffff, 0xff800001, 0xffc00000, -1};

    static final long[] DOUBLE_ILLS = {
        0x7ff0000000000001L, 0x7ff00000ffffffffL, 0x7ff8000000000000L, 0x7fffffffffffffffL,
        0xfff0000000000001L, 0xfff8000000000000L, -1L,
    };

    static int high(long bits) {
        return (int) (bits >>> 32);
    }

    static int low(long bits) {
        return (int) bits;
    }

    /** High ints on wires of 32 bits are not looked at: the tests fill them with what would be ILL there. */
    static final int NOT_LOOKED_AT = 0x7fffffff;

    static boolean put(PedalBoard x, int wire, long code) {
        return x.put(wire, highOf(wire, code), low(code));
    }

    static int pedal(PedalBoard x, int wire, int kind, long code) {
        return x.pedal(wire, kind, highOf(wire, code), low(code));
    }

    static boolean turn(PedalBoard x, int wire, int place, long code) {
        return x.turn(wire, place, highOf(wire, code), low(code));
    }

    private static int highOf(int wire, long code) {
        return wire == LONG || wire == DOUBLE ? high(code) : NOT_LOOKED_AT;
    }

    /** The CODE of a number on a wire, for numbers that are the same on every wire they are asked for. */
    static long code(int wire, double number) {
        return wire < FLOAT ? (long) number : wire == FLOAT ? f((float) number) : d(number);
    }

    static int[] kinds(int wire) {
        return wire < FLOAT ? WHOLE_KINDS : KINDS;
    }

    /** The bits that are not a number on a wire; none on the whole ones. */
    static long[] ills(int wire) {
        if (wire == DOUBLE) {
            return DOUBLE_ILLS;
        }
        long[] ills = new long[wire == FLOAT ? FLOAT_ILLS.length : 0];
        for (int i = 0; i < ills.length; i++) {
            ills[i] = FLOAT_ILLS[i];
        }
        return ills;
    }

    static long f(float signal) {
        return Float.floatToRawIntBits(signal);
    }

    static long d(double signal) {
        return Double.doubleToRawLongBits(signal);
    }

    /** The CODES of some ordinary and all edge signals of a wire, with both signs. */
    static long[] codes(int wire) {
        int n = wire == INT ? INTS.length : wire == LONG ? LONGS.length : wire == FLOAT ? FLOATS.length : DOUBLES.length;
        long[] codes = new long[2 * n];
        for (int i = 0; i < n; i++) {
            codes[2 * i] = codeAt(wire, i, false);
            codes[2 * i + 1] = codeAt(wire, i, true);
        }
        return codes;
    }

    private static long codeAt(int wire, int i, boolean other) {
        switch (wire) {
            case INT:
                return other ? -INTS[i] : INTS[i];
            case LONG:
                return other ? -LONGS[i] : LONGS[i];
            case FLOAT:
                return f(other ? -FLOATS[i] : FLOATS[i]);
            default:
                return d(other ? -DOUBLES[i] : DOUBLES[i]);
        }
    }

    private Signals() {
    }
}
