/**
 * Four wires with a signal each (int, long, float, double) and a row of pedals on each of them.
 *
 * A signal is held as its CODE everywhere, and floats and doubles are worked on as bits: the part
 * of the language that this file keeps to has no way from bits to a float and back.
 */
public final class PedalBoard {
    public static final int NONE = -1;

    private static final int WIRES = 4;
    private static final int PRESETS = 4;
    private static final int MOST_PEDALS = 12;
    private static final int MOST_ROUNDS = 50;

    private static final int RECTIFY = 0;
    private static final int AT_MOST = 1;
    private static final int AT_LEAST = 2;
    private static final int DOWN = 3;
    private static final int UP = 4;
    private static final int NEAR = 5;
    private static final int SIGN = 6;
    private static final int POLARITY = 7;
    private static final int FLIP = 8;

    private static final Sort[] SORTS = Sort.values();

    private final Wire[] wires;

    public PedalBoard() {
        wires = new Wire[WIRES];
        for (int i = 0; i < WIRES; i++) {
            wires[i] = new Wire(SORTS[i]);
        }
    }

    public boolean put(int wire, int high, int low) throws IllegalArgumentException {
        Wire w = wireAt(wire);
        return w.takeDry(numberOn(w, high, low));
    }

    public int pedal(int wire, int kind, int high, int low)
            throws IllegalArgumentException, IllegalStateException {
        Wire w = wireAt(wire);
        if (!w.sort.hasKind(kind)) {
            throw new IllegalArgumentException("no such kind on this wire");
        }
        long knob = numberOn(w, high, low);
        if (w.pedals.isFull()) {
            throw new IllegalStateException("the wire has all its pedals");
        }
        w.traced = false;
        return w.pedals.append(kind, knob);
    }

    public boolean turn(int wire, int place, int high, int low) throws IllegalArgumentException {
        Wire w = wireAt(wire);
        needPedal(w, place);
        long knob = numberOn(w, high, low);
        boolean another = w.pedals.knobs[place] != knob;
        w.pedals.knobs[place] = knob;
        return another;
    }

    public boolean tap(int wire, int place) throws IllegalArgumentException {
        Wire w = wireAt(wire);
        needPedal(w, place);
        w.pedals.on[place] = !w.pedals.on[place];
        return w.pedals.on[place];
    }

    public boolean swap(int wire, int a, int b) throws IllegalArgumentException {
        Wire w = wireAt(wire);
        needPedal(w, a);
        needPedal(w, b);
        w.traced = false;
        boolean unlike = w.pedals.areUnlike(a, b);
        w.pedals.exchange(a, b);
        return unlike;
    }

    public int play(int wire, int rounds) throws IllegalArgumentException {
        Wire w = wireAt(wire);
        if (rounds < 1 || rounds > MOST_ROUNDS) {
            throw new IllegalArgumentException("rounds must be 1 to 50");
        }
        int changes = 0;
        for (int i = 0; i < rounds; i++) {
            changes += w.runRound();
        }
        return changes;
    }

    public long code(int wire, int which) throws IllegalArgumentException, IllegalStateException {
        Wire w = wireAt(wire);
        if (which < 0 || which > 3) {
            throw new IllegalArgumentException("which must be 0 to 3");
        }
        if (which == 0) {
            return w.dry;
        }
        if (which == 1) {
            return w.wet;
        }
        if (!w.hasPeaks()) {
            throw new IllegalStateException("there are no peaks");
        }
        return which == 2 ? w.greatest : w.least;
    }

    public long trace(int wire, int place) throws IllegalArgumentException, IllegalStateException {
        Wire w = wireAt(wire);
        needPedal(w, place);
        if (!w.traced) {
            throw new IllegalStateException("there is no trace");
        }
        return w.outs[place];
    }

    public boolean light(int wire, int place) {
        return isWire(wire) && wires[wire].isLit(place);
    }

    public int against(int wire) throws IllegalArgumentException {
        Wire w = wireAt(wire);
        if (w.wet == w.dry) {
            return 0;
        }
        if (w.sort.isZero(w.wet) && w.sort.isZero(w.dry)) {
            return 2;
        }
        return w.sort.isLess(w.wet, w.dry) ? -1 : 1;
    }

    public int save(int wire, int preset) throws IllegalArgumentException {
        Wire w = wireAt(wire);
        Pedals kept = presetOf(w, preset);
        kept.become(w.pedals);
        return kept.count;
    }

    public int recall(int wire, int preset) throws IllegalArgumentException {
        Wire w = wireAt(wire);
        Pedals kept = presetOf(w, preset);
        w.pedals.become(kept);
        w.traced = false;
        return w.pedals.count;
    }

    public long patch(int from, int to) throws IllegalArgumentException {
        Wire source = wireAt(from);
        Wire target = wireAt(to);
        long signal = source.sort.castTo(target.sort, source.wet);
        target.takeDry(signal);
        return signal;
    }

    public int about(int wire, int what) {
        if (!isWire(wire)) {
            return NONE;
        }
        Wire w = wires[wire];
        switch (what) {
            case 0:
                return w.pedals.count;
            case 1:
                return w.pedals.countOn();
            case 2:
                return w.countLit();
            case 3:
                return w.rounds;
            default:
                return NONE;
        }
    }

    private static boolean isWire(int wire) {
        return wire >= 0 && wire < WIRES;
    }

    private Wire wireAt(int wire) {
        if (!isWire(wire)) {
            throw new IllegalArgumentException("no such wire");
        }
        return wires[wire];
    }

    private static void needPedal(Wire w, int place) {
        if (!w.pedals.has(place)) {
            throw new IllegalArgumentException("no such pedal");
        }
    }

    private static Pedals presetOf(Wire w, int preset) {
        if (preset < 0 || preset >= PRESETS) {
            throw new IllegalArgumentException("no such preset");
        }
        return w.presets[preset];
    }

    private static long numberOn(Wire w, int high, int low) {
        long code = w.sort.codeOf(high, low);
        if (w.sort.isIll(code)) {
            throw new IllegalArgumentException("not a number");
        }
        return code;
    }

    /** One wire: its signals, its pedals, and what the latest rounds left behind. */
    private static final class Wire {
        final Sort sort;
        final Pedals pedals;
        final Pedals[] presets;
        /** What came out of each pedal, and which lights are on; both count only while traced. */
        final long[] outs;
        final boolean[] lights;
        boolean traced;
        long dry;
        long wet;
        int rounds;
        long greatest;
        long least;

        Wire(Sort sort) {
            this.sort = sort;
            pedals = new Pedals();
            presets = new Pedals[PRESETS];
            for (int i = 0; i < PRESETS; i++) {
                presets[i] = new Pedals();
            }
            outs = new long[MOST_PEDALS];
            lights = new boolean[MOST_PEDALS];
        }

        boolean takeDry(long signal) {
            boolean another = dry != signal;
            dry = signal;
            wet = signal;
            rounds = 0;
            traced = false;
            return another;
        }

        /** Answers how many pedals changed the CODE of what came in. */
        int runRound() {
            int changes = 0;
            for (int i = 0; i < pedals.count; i++) {
                long in = wet;
                wet = pedals.on[i] ? sort.through(pedals.kinds[i], pedals.knobs[i], in) : in;
                outs[i] = wet;
                lights[i] = wet != in;
                if (lights[i]) {
                    changes++;
                }
            }
            traced = true;
            keepPeaks();
            rounds++;
            return changes;
        }

        /** Each round since DRY came leaves peaks, so the count of rounds tells of them too. */
        boolean hasPeaks() {
            return rounds > 0;
        }

        private void keepPeaks() {
            if (!hasPeaks() || sort.isLess(greatest, wet)) {
                greatest = wet;
            }
            if (!hasPeaks() || sort.isLess(wet, least)) {
                least = wet;
            }
        }

        boolean isLit(int place) {
            return traced && pedals.has(place) && lights[place];
        }

        int countLit() {
            int lit = 0;
            for (int i = 0; i < pedals.count; i++) {
                if (isLit(i)) {
                    lit++;
                }
            }
            return lit;
        }
    }

    /** A row of pedals, on a wire or kept in a preset. */
    private static final class Pedals {
        final int[] kinds;
        final long[] knobs;
        final boolean[] on;
        int count;

        Pedals() {
            kinds = new int[MOST_PEDALS];
            knobs = new long[MOST_PEDALS];
            on = new boolean[MOST_PEDALS];
        }

        boolean has(int place) {
            return place >= 0 && place < count;
        }

        boolean isFull() {
            return count >= MOST_PEDALS;
        }

        /** Answers the place, or NONE if the row is full. */
        int append(int kind, long knob) {
            if (isFull()) {
                return NONE;
            }
            kinds[count] = kind;
            knobs[count] = knob;
            on[count] = true;
            count++;
            return count - 1;
        }

        boolean areUnlike(int a, int b) {
            return kinds[a] != kinds[b] || knobs[a] != knobs[b] || on[a] != on[b];
        }

        void exchange(int a, int b) {
            int kind = kinds[a];
            kinds[a] = kinds[b];
            kinds[b] = kind;
            long knob = knobs[a];
            knobs[a] = knobs[b];
            knobs[b] = knob;
            boolean wasOn = on[a];
            on[a] = on[b];
            on[b] = wasOn;
        }

        void become(Pedals other) {
            for (int i = 0; i < other.count; i++) {
                kinds[i] = other.kinds[i];
                knobs[i] = other.knobs[i];
                on[i] = other.on[i];
            }
            count = other.count;
        }

        int countOn() {
            int found = 0;
            for (int i = 0; i < count; i++) {
                if (on[i]) {
                    found++;
                }
            }
            return found;
        }
    }

    /**
     * The sort of a wire's signals, in the order of the wires. The CODE of a sort of 32 bits is
     * an int made long, so a CODE below 0 is one with a sign in every sort.
     */
    private enum Sort {
        INT(32, 0, 0),
        LONG(64, 0, 0),
        FLOAT(32, 23, 127),
        DOUBLE(64, 52, 1023);

        private final int bits;
        /** How many bits of the fraction are written out; 0 for the whole sorts. */
        private final int fraction;
        private final int bias;
        /** All bits but the sign's. */
        private final long sizeMask;

        Sort(int bits, int fraction, int bias) {
            this.bits = bits;
            this.fraction = fraction;
            this.bias = bias;
            this.sizeMask = (1L << (bits - 1)) - 1;
        }

        private boolean isWhole() {
            return fraction == 0;
        }

        /** The CODE of the float or double that is infinite, has no sign, and is above all others. */
        private long infinite() {
            return (2L * bias + 1) << fraction;
        }

        private long one() {
            return (long) bias << fraction;
        }

        private long oneHalf() {
            return (bias - 1L) << fraction;
        }

        long codeOf(int high, int low) {
            return bits == 32 ? (long) low : ((long) high << 32) | (low & 0xFFFFFFFFL);
        }

        boolean isIll(long code) {
            return !isWhole() && (code & sizeMask) > infinite();
        }

        boolean isZero(long code) {
            return isWhole() ? code == 0 : (code & sizeMask) == 0;
        }

        boolean hasKind(int kind) {
            if (kind >= DOWN && kind <= POLARITY) {
                return !isWhole();
            }
            return kind >= RECTIFY && kind <= FLIP;
        }

        boolean isLess(long a, long b) {
            return rank(a) < rank(b);
        }

        /** Bits with a sign grow away from 0: turned over, they rank below all without one. */
        private long rank(long code) {
            return !isWhole() && code < 0 ? code ^ sizeMask : code;
        }

        long through(int kind, long knob, long s) {
            switch (kind) {
                case RECTIFY:
                    return s < 0 ? withOtherSign(s) : s;
                case AT_MOST:
                    return isLess(knob, s) ? knob : s;
                case AT_LEAST:
                    return isLess(s, knob) ? knob : s;
                case DOWN:
                case UP:
                case NEAR:
                    return withSignOf(s, wholeSize(kind, s));
                case SIGN:
                    return isZero(s) ? s : withSignOf(s, one());
                case POLARITY:
                    return withSignOf(knob, s);
                case FLIP:
                    return withOtherSign(s);
                default:
                    return s;
            }
        }

        private long withOtherSign(long s) {
            return isWhole() ? fitted(-s) : s ^ ~sizeMask;
        }

        /** The first CODE may be one of any sort. */
        private long withSignOf(long signed, long s) {
            return (s & sizeMask) | (signed < 0 ? ~sizeMask : 0);
        }

        /** A whole number as this whole sort holds it: its lower bits. */
        private long fitted(long whole) {
            return bits == 32 ? (long) (int) whole : whole;
        }

        /** The size of s, brought to a whole number by the kind DOWN, UP or NEAR. */
        private long wholeSize(int kind, long s) {
            long size = s & sizeMask;
            int exponent = (int) (size >> fraction) - bias;
            if (size == 0 || exponent >= fraction) {
                return size;
            }
            if (exponent < 0) {
                boolean away = kind == NEAR ? size > oneHalf() : growsAway(kind, s);
                return away ? one() : 0;
            }
            long unit = 1L << (fraction - exponent);
            long rest = size & (unit - 1);
            if (rest == 0) {
                return size;
            }
            long inner = size - rest;
            boolean away = kind == NEAR ? isNearerAway(inner, rest, unit) : growsAway(kind, s);
            return away ? inner + unit : inner;
        }

        private static boolean growsAway(int kind, long s) {
            return kind == DOWN ? s < 0 : s >= 0;
        }

        /**
         * The unit's bit tells odd from even. For 1 it is the exponent's lowest bit, which is set
         * there as the bias is odd: 1 counts as odd, as it should.
         */
        private static boolean isNearerAway(long inner, long rest, long unit) {
            long half = unit >> 1;
            return rest > half || (rest == half && (inner & unit) != 0);
        }

        long castTo(Sort to, long code) {
            if (isWhole()) {
                return to.isWhole() ? to.fitted(code) : to.roundedWhole(code);
            }
            return to.isWhole() ? cutTo(to, code) : refit(to, code);
        }

        private long roundedWhole(long whole) {
            // The least long has no size as a long: its bits are taken as those of 2 to the 63rd.
            return whole == 0 ? 0 : withSignOf(whole, rounded(whole < 0 ? -whole : whole, 0));
        }

        /** A float or double without its fraction, held between the ends of a whole sort. */
        private long cutTo(Sort whole, long code) {
            long size = code & sizeMask;
            int exponent = (int) (size >> fraction) - bias;
            if (exponent < 0) {
                return 0;
            }
            if (exponent >= whole.bits - 1) {
                return code < 0 ? ~whole.sizeMask : whole.sizeMask;
            }
            long unit = 1L << fraction;
            long digits = (size & (unit - 1)) | unit;
            int shift = exponent - fraction;
            long cut = shift >= 0 ? digits << shift : digits >> -shift;
            return code < 0 ? -cut : cut;
        }

        /** A float or double as the nearest one of the other such sort. */
        private long refit(Sort to, long code) {
            long size = code & sizeMask;
            if (size == 0) {
                return to.withSignOf(code, 0);
            }
            if (size == infinite()) {
                return to.withSignOf(code, to.infinite());
            }
            long unit = 1L << fraction;
            int field = (int) (size >> fraction);
            long digits = field == 0 ? size : (size & (unit - 1)) | unit;
            // Numbers of the field 0 have the scale of field 1, without the leading unit.
            int scale = Math.max(field, 1) - bias - fraction;
            return to.withSignOf(code, to.rounded(digits, scale));
        }

        /** The bits for digits * 2^scale; digits is not 0, and counts without a sign. */
        private long rounded(long digits, int scale) {
            long top = digits;
            int exponent = scale + 63;
            for (int i = 0; i < 63 && top > 0; i++) {
                top <<= 1;
                exponent--;
            }
            int field = exponent + bias;
            // Below field 1 the steps do not get finer, so more of the digits is dropped.
            int dropped = 63 - fraction + Math.max(0, 1 - field);
            if (dropped > 64) {
                return 0;
            }
            long kept = dropped == 64 ? 0 : top >>> dropped;
            long rest = top << (64 - dropped);
            if (isOverHalf(rest) || (rest == Long.MIN_VALUE && (kept & 1) != 0)) {
                kept++;
            }
            // The leading unit of kept adds the last 1 to the field, and so does its carry.
            long size = kept + ((Math.max(field, 1) - 1L) << fraction);
            return Math.min(size, infinite());
        }

        /** Whether a rest, its top bit being the half, is above the half. */
        private static boolean isOverHalf(long rest) {
            return rest < 0 && rest != Long.MIN_VALUE;
        }
    }
}
