import java.util.ArrayList;
import java.util.List;

/** The document told a second time, with Java's own lists, floats, doubles and Math, to hold the program against. */
final class Mirror {
    static final class Pedal {
        int kind;
        long knob;
        boolean on = true;

        Pedal(int kind, long knob) {
            this.kind = kind;
            this.knob = knob;
        }

        Pedal copy() {
            Pedal copy = new Pedal(kind, knob);
            copy.on = on;
            return copy;
        }
    }

    static final class Wire {
        long dry;
        long wet;
        int rounds;
        Long greatest;
        Long least;
        List<Long> trace;
        List<Boolean> lights;
        List<Pedal> pedals = new ArrayList<>();
        final List<List<Pedal>> presets = new ArrayList<>();
    }

    final Wire[] wires = {new Wire(), new Wire(), new Wire(), new Wire()};

    Mirror() {
        for (Wire w : wires) {
            for (int i = 0; i < 4; i++) {
                w.presets.add(new ArrayList<>());
            }
        }
    }

    private Wire wireAt(int wire) {
        refuse(wire < 0 || wire > 3);
        return wires[wire];
    }

    private static void refuse(boolean wrong) {
        if (wrong) {
            throw new IllegalArgumentException();
        }
    }

    private static void refuseNow(boolean missing) {
        if (missing) {
            throw new IllegalStateException();
        }
    }

    private static Pedal pedalAt(Wire w, int place) {
        refuse(place < 0 || place >= w.pedals.size());
        return w.pedals.get(place);
    }

    private static long number(int wire, int high, int low) {
        long bits = ((long) high << 32) + Integer.toUnsignedLong(low);
        refuse(wire == 2 && Float.isNaN(Float.intBitsToFloat(low)));
        refuse(wire == 3 && Double.isNaN(Double.longBitsToDouble(bits)));
        return wire == 0 || wire == 2 ? low : bits;
    }

    boolean put(int wire, int high, int low) {
        wireAt(wire);
        return takeDry(wire, number(wire, high, low));
    }

    private boolean takeDry(int wire, long code) {
        Wire w = wires[wire];
        boolean another = w.dry != code;
        w.dry = code;
        w.wet = code;
        w.rounds = 0;
        w.greatest = null;
        w.least = null;
        w.trace = null;
        return another;
    }

    int pedal(int wire, int kind, int high, int low) {
        Wire w = wireAt(wire);
        refuse(kind < 0 || kind > 8 || (wire < 2 && kind > 2 && kind < 8));
        long knob = number(wire, high, low);
        refuseNow(w.pedals.size() == 12);
        w.pedals.add(new Pedal(kind, knob));
        w.trace = null;
        return w.pedals.size() - 1;
    }

    boolean turn(int wire, int place, int high, int low) {
        Pedal p = pedalAt(wireAt(wire), place);
        long knob = number(wire, high, low);
        boolean another = p.knob != knob;
        p.knob = knob;
        return another;
    }

    boolean tap(int wire, int place) {
        Pedal p = pedalAt(wireAt(wire), place);
        p.on = !p.on;
        return p.on;
    }

    boolean swap(int wire, int a, int b) {
        Wire w = wireAt(wire);
        Pedal p = pedalAt(w, a);
        Pedal q = pedalAt(w, b);
        w.pedals.set(a, q);
        w.pedals.set(b, p);
        w.trace = null;
        return p.kind != q.kind || p.knob != q.knob || p.on != q.on;
    }

    int play(int wire, int rounds) {
        wireAt(wire);
        refuse(rounds < 1 || rounds > 50);
        int changes = 0;
        for (int i = 0; i < rounds; i++) {
            changes += round(wire);
        }
        return changes;
    }

    private int round(int wire) {
        Wire w = wires[wire];
        w.trace = new ArrayList<>();
        w.lights = new ArrayList<>();
        int changes = 0;
        long s = w.wet;
        for (Pedal p : w.pedals) {
            long out = p.on ? through(wire, p.kind, p.knob, s) : s;
            w.trace.add(out);
            w.lights.add(out != s);
            changes += out != s ? 1 : 0;
            s = out;
        }
        w.wet = s;
        w.rounds++;
        if (w.greatest == null || compare(wire, s, w.greatest) > 0) {
            w.greatest = s;
        }
        if (w.least == null || compare(wire, s, w.least) < 0) {
            w.least = s;
        }
        return changes;
    }

    long code(int wire, int which) {
        Wire w = wireAt(wire);
        refuse(which < 0 || which > 3);
        refuseNow(which > 1 && w.greatest == null);
        return which == 0 ? w.dry : which == 1 ? w.wet : which == 2 ? w.greatest : w.least;
    }

    long trace(int wire, int place) {
        Wire w = wireAt(wire);
        pedalAt(w, place);
        refuseNow(w.trace == null);
        return w.trace.get(place);
    }

    boolean light(int wire, int place) {
        if (wire < 0 || wire > 3 || place < 0 || place >= wires[wire].pedals.size()) {
            return false;
        }
        return wires[wire].trace != null && wires[wire].lights.get(place);
    }

    int against(int wire) {
        Wire w = wireAt(wire);
        if (w.wet == w.dry) {
            return 0;
        }
        boolean zeros = wire == 2 ? asFloat(w.wet) == 0 && asFloat(w.dry) == 0
                : wire == 3 && asDouble(w.wet) == 0 && asDouble(w.dry) == 0;
        return zeros ? 2 : compare(wire, w.wet, w.dry) < 0 ? -1 : 1;
    }

    int save(int wire, int preset) {
        Wire w = wireAt(wire);
        refuse(preset < 0 || preset > 3);
        w.presets.set(preset, copies(w.pedals));
        return w.pedals.size();
    }

    int recall(int wire, int preset) {
        Wire w = wireAt(wire);
        refuse(preset < 0 || preset > 3);
        w.pedals = copies(w.presets.get(preset));
        w.trace = null;
        return w.pedals.size();
    }

    private static List<Pedal> copies(List<Pedal> pedals) {
        List<Pedal> copies = new ArrayList<>();
        for (Pedal p : pedals) {
            copies.add(p.copy());
        }
        return copies;
    }

    long patch(int from, int to) {
        Wire w = wireAt(from);
        wireAt(to);
        long code = cast(from, to, w.wet);
        takeDry(to, code);
        return code;
    }

    int about(int wire, int what) {
        if (wire < 0 || wire > 3 || what < 0 || what > 3) {
            return -1;
        }
        Wire w = wires[wire];
        return what == 0 ? w.pedals.size() : what == 3 ? w.rounds : countOf(wire, what);
    }

    private int countOf(int wire, int what) {
        int n = 0;
        for (int i = 0; i < wires[wire].pedals.size(); i++) {
            boolean counts = what == 1 ? wires[wire].pedals.get(i).on : light(wire, i);
            n += counts ? 1 : 0;
        }
        return n;
    }

    static float asFloat(long code) {
        return Float.intBitsToFloat((int) code);
    }

    static double asDouble(long code) {
        return Double.longBitsToDouble(code);
    }

    static int compare(int wire, long a, long b) {
        return wire < 2 ? Long.compare(a, b)
                : wire == 2 ? Float.compare(asFloat(a), asFloat(b)) : Double.compare(asDouble(a), asDouble(b));
    }

    static long through(int wire, int kind, long knob, long s) {
        switch (wire) {
            case 0:
                return throughInt(kind, (int) knob, (int) s);
            case 1:
                return throughLong(kind, knob, s);
            case 2:
                return Float.floatToRawIntBits(throughFloat(kind, asFloat(knob), asFloat(s)));
            default:
                return Double.doubleToRawLongBits(throughDouble(kind, asDouble(knob), asDouble(s)));
        }
    }

    private static int throughInt(int kind, int k, int s) {
        return kind == 0 ? Math.abs(s) : kind == 1 ? Math.min(s, k) : kind == 2 ? Math.max(s, k) : -s;
    }

    private static long throughLong(int kind, long k, long s) {
        return kind == 0 ? Math.abs(s) : kind == 1 ? Math.min(s, k) : kind == 2 ? Math.max(s, k) : -s;
    }

    /** Each of these on a float is exact, or the same, when it is done on a double. */
    private static float throughFloat(int kind, float k, float s) {
        return (float) throughDouble(kind, k, s);
    }

    private static double throughDouble(int kind, double k, double s) {
        switch (kind) {
            case 0:
                return Math.abs(s);
            case 1:
                return Math.min(s, k);
            case 2:
                return Math.max(s, k);
            case 3:
                return Math.floor(s);
            case 4:
                return Math.ceil(s);
            case 5:
                return Math.rint(s);
            case 6:
                return Math.signum(s);
            case 7:
                return Math.copySign(s, k);
            default:
                return -s;
        }
    }

    static long cast(int from, int to, long code) {
        switch (from) {
            case 0:
                return castInt(to, (int) code);
            case 1:
                return castLong(to, code);
            case 2:
                return castFloat(to, asFloat(code));
            default:
                return castDouble(to, asDouble(code));
        }
    }

    private static long castInt(int to, int s) {
        return to == 0 ? s : to == 1 ? (long) s : to == 2 ? Float.floatToRawIntBits((float) s)
                : Double.doubleToRawLongBits((double) s);
    }

    private static long castLong(int to, long s) {
        return to == 0 ? (int) s : to == 1 ? s : to == 2 ? Float.floatToRawIntBits((float) s)
                : Double.doubleToRawLongBits((double) s);
    }

    private static long castFloat(int to, float s) {
        return to == 0 ? (int) s : to == 1 ? (long) s : to == 2 ? Float.floatToRawIntBits(s)
                : Double.doubleToRawLongBits((double) s);
    }

    private static long castDouble(int to, double s) {
        return to == 0 ? (int) s : to == 1 ? (long) s : to == 2 ? Float.floatToRawIntBits((float) s)
                : Double.doubleToRawLongBits(s);
    }
}
