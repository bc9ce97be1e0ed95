import java.util.ArrayList;
import java.util.List;

/**
 * The document told a second time, with Java's own floats, doubles and Math, to hold the program against.
 * It tells the state of a board; what a call refuses is asked in the tests of the promises.
 */
final class Mirror {
    static final class Pedal {
        int kind;
        long knob;
        boolean on = true;

        Pedal(int kind, long knob) {
            this.kind = kind;
            this.knob = knob;
        }

        Pedal copy() {
            Pedal copy = new Pedal(kind, knob);
            copy.on = on;
            return copy;
        }
    }

    static final class Wire {
        long dry;
        long wet;
        int rounds;
        Long greatest;
        Long least;
        List<Long> trace;
        List<Boolean> lights;
        List<Pedal> pedals = new ArrayList<>();
        final List<List<Pedal>> presets = new ArrayList<>();
    }

    final Wire[] wires = {new Wire(), new Wire(), new Wire(), new Wire()};

    Mirror() {
        for (Wire w : wires) {
            for (int i = 0; i < 4; i++) {
                w.presets.add(new ArrayList<>());
            }
        }
    }

    boolean put(int wire, long code) {
        Wire w = wires[wire];
        boolean another = w.dry != code;
        w.dry = code;
        w.wet = code;
        w.rounds = 0;
        w.greatest = null;
        w.least = null;
        w.trace = null;
        return another;
    }

    int pedal(int wire, int kind, long knob) {
        wires[wire].pedals.add(new Pedal(kind, knob));
        wires[wire].trace = null;
        return wires[wire].pedals.size() - 1;
    }

    boolean turn(int wire, int place, long knob) {
        Pedal p = wires[wire].pedals.get(place);
        boolean another = p.knob != knob;
        p.knob = knob;
        return another;
    }

    boolean tap(int wire, int place) {
        Pedal p = wires[wire].pedals.get(place);
        p.on = !p.on;
        return p.on;
    }

    boolean swap(int wire, int a, int b) {
        Wire w = wires[wire];
        Pedal p = w.pedals.get(a);
        Pedal q = w.pedals.get(b);
        w.pedals.set(a, q);
        w.pedals.set(b, p);
        w.trace = null;
        return p.kind != q.kind || p.knob != q.knob || p.on != q.on;
    }

    int play(int wire, int rounds) {
        int changes = 0;
        for (int i = 0; i < rounds; i++) {
            changes += round(wire);
        }
        return changes;
    }

    private int round(int wire) {
        Wire w = wires[wire];
        w.trace = new ArrayList<>();
        w.lights = new ArrayList<>();
        int changes = 0;
        long s = w.wet;
        for (Pedal p : w.pedals) {
            long out = p.on ? through(wire, p.kind, p.knob, s) : s;
            w.trace.add(out);
            w.lights.add(out != s);
            changes += out != s ? 1 : 0;
            s = out;
        }
        w.wet = s;
        w.rounds++;
        if (w.greatest == null || compare(wire, s, w.greatest) > 0) {
            w.greatest = s;
        }
        if (w.least == null || compare(wire, s, w.least) < 0) {
            w.least = s;
        }
        return changes;
    }

    int save(int wire, int preset) {
        wires[wire].presets.set(preset, copies(wires[wire].pedals));
        return wires[wire].pedals.size();
    }

    int recall(int wire, int preset) {
        wires[wire].pedals = copies(wires[wire].presets.get(preset));
        wires[wire].trace = null;
        return wires[wire].pedals.size();
    }

    private static List<Pedal> copies(List<Pedal> pedals) {
        List<Pedal> copies = new ArrayList<>();
        for (Pedal p : pedals) {
            copies.add(p.copy());
        }
        return copies;
    }

    long patch(int from, int to) {
        long code = cast(from, to, wires[from].wet);
        put(to, code);
        return code;
    }

    int against(int wire) {
        Wire w = wires[wire];
        if (w.wet == w.dry) {
            return 0;
        }
        boolean zeros = wire == 2 ? asFloat(w.wet) == 0 && asFloat(w.dry) == 0
                : wire == 3 && asDouble(w.wet) == 0 && asDouble(w.dry) == 0;
        return zeros ? 2 : compare(wire, w.wet, w.dry) < 0 ? -1 : 1;
    }

    int on(int wire) {
        int n = 0;
        for (Pedal p : wires[wire].pedals) {
            n += p.on ? 1 : 0;
        }
        return n;
    }

    int lit(int wire) {
        Wire w = wires[wire];
        int n = 0;
        for (int i = 0; w.trace != null && i < w.lights.size(); i++) {
            n += w.lights.get(i) ? 1 : 0;
        }
        return n;
    }

    static float asFloat(long code) {
        return Float.intBitsToFloat((int) code);
    }

    static double asDouble(long code) {
        return Double.longBitsToDouble(code);
    }

    static int compare(int wire, long a, long b) {
        return wire < 2 ? Long.compare(a, b)
                : wire == 2 ? Float.compare(asFloat(a), asFloat(b)) : Double.compare(asDouble(a), asDouble(b));
    }

    static long through(int wire, int kind, long knob, long s) {
        switch (wire) {
            case 0:
                return throughInt(kind, (int) knob, (int) s);
            case 1:
                return throughLong(kind, knob, s);
            case 2:
                return Float.floatToRawIntBits(throughFloat(kind, asFloat(knob), asFloat(s)));
            default:
                return Double.doubleToRawLongBits(throughDouble(kind, asDouble(knob), asDouble(s)));
        }
    }

    private static int throughInt(int kind, int k, int s) {
        return kind == 0 ? Math.abs(s) : kind == 1 ? Math.min(s, k) : kind == 2 ? Math.max(s, k) : -s;
    }

    private static long throughLong(int kind, long k, long s) {
        return kind == 0 ? Math.abs(s) : kind == 1 ? Math.min(s, k) : kind == 2 ? Math.max(s, k) : -s;
    }

    /** Each of these on a float is exact, or the same, when it is done on a double. */
    private static float throughFloat(int kind, float k, float s) {
        return (float) throughDouble(kind, k, s);
    }

    private static double throughDouble(int kind, double k, double s) {
        switch (kind) {
            case 0:
                return Math.abs(s);
            case 1:
                return Math.min(s, k);
            case 2:
                return Math.max(s, k);
            case 3:
                return Math.floor(s);
            case 4:
                return Math.ceil(s);
            case 5:
                return Math.rint(s);
            case 6:
                return Math.signum(s);
            case 7:
                return Math.copySign(s, k);
            default:
                return -s;
        }
    }

    static long cast(int from, int to, long code) {
        switch (from) {
            case 0:
                return castInt(to, (int) code);
            case 1:
                return castLong(to, code);
            case 2:
                return castFloat(to, asFloat(code));
            default:
                return castDouble(to, asDouble(code));
        }
    }

    private static long castInt(int to, int s) {
        return to == 0 ? s : to == 1 ? (long) s : to == 2 ? Float.floatToRawIntBits((float) s)
                : Double.doubleToRawLongBits((double) s);
    }

    private static long castLong(int to, long s) {
        return to == 0 ? (int) s : to == 1 ? s : to == 2 ? Float.floatToRawIntBits((float) s)
                : Double.doubleToRawLongBits((double) s);
    }

    private static long castFloat(int to, float s) {
        return to == 0 ? (int) s : to == 1 ? (long) s : to == 2 ? Float.floatToRawIntBits(s)
                : Double.doubleToRawLongBits((double) s);
    }

    private static long castDouble(int to, double s) {
        return to == 0 ? (int) s : to == 1 ? (long) s : to == 2 ? Float.floatToRawIntBits((float) s)
                : Double.doubleToRawLongBits(s);
    }
}
