/** Long runs of calls, each answer and the whole state behind it held against the Mirror. */
public final class MirrorTest {
    private static final int RUNS = 400;
    private static final int CALLS = 120;

    private static final Due due = new Due();
    private static long seed = 20261116L;

    private static int upTo(int bound) {
        seed = seed * 6364136223846793005L + 1442695040888963407L;
        return (int) ((seed >>> 33) % bound);
    }

    private static long anyCode(int wire) {
        long[] codes = Signals.codes(wire);
        if (upTo(3) > 0) {
            return codes[upTo(codes.length)];
        }
        long bits = ((long) upTo(1 << 30) << 34) ^ ((long) upTo(1 << 30) << 17) ^ upTo(1 << 30);
        switch (wire) {
            case 0:
                return (int) bits;
            case 1:
                return bits >> upTo(64);
            case 2:
                return Float.isNaN(Mirror.asFloat((int) bits)) ? 0 : (int) bits;
            default:
                return Double.isNaN(Mirror.asDouble(bits)) ? 0 : bits;
        }
    }

    private static int anyKind(int wire) {
        int kind = upTo(9);
        return wire < 2 && kind > 2 ? 8 : kind;
    }

    private static void call(PedalBoard x, Mirror m) {
        int wire = upTo(4);
        int pedals = m.wires[wire].pedals.size();
        long code = anyCode(wire);
        int a = upTo(Math.max(pedals, 1));
        int b = upTo(Math.max(pedals, 1));
        int what = upTo(pedals == 0 ? 6 : 9);
        String on = " on wire " + wire;
        switch (what) {
            case 0:
                due.is(m.put(wire, code), "put " + code + on, () -> Signals.put(x, wire, code));
                break;
            case 1:
                int kind = anyKind(wire);
                if (pedals < 12) {
                    due.is(m.pedal(wire, kind, code), "pedal " + kind + on, () -> Signals.pedal(x, wire, kind, code));
                } else {
                    due.illegalState("pedal 13" + on, () -> Signals.pedal(x, wire, kind, code));
                }
                break;
            case 2:
                int rounds = 1 + upTo(upTo(8) == 0 ? 50 : 3);
                due.is(m.play(wire, rounds), "play " + rounds + on, () -> x.play(wire, rounds));
                break;
            case 3:
                due.is(m.save(wire, a % 4), "save" + on, () -> x.save(wire, a % 4));
                break;
            case 4:
                int preset = upTo(4);
                due.is(m.recall(wire, preset), "recall" + on, () -> x.recall(wire, preset));
                break;
            case 5:
                int to = upTo(4);
                due.is(m.patch(wire, to), "patch to " + to + on, () -> x.patch(wire, to));
                break;
            case 6:
                due.is(m.turn(wire, a, code), "turn" + on, () -> Signals.turn(x, wire, a, code));
                break;
            case 7:
                due.is(m.tap(wire, a), "tap" + on, () -> x.tap(wire, a));
                break;
            default:
                due.is(m.swap(wire, a, b), "swap" + on, () -> x.swap(wire, a, b));
                break;
        }
    }

    private static void holdAgainst(PedalBoard x, Mirror m, int wire) {
        Mirror.Wire w = m.wires[wire];
        String on = " of wire " + wire;
        due.is(w.dry, "DRY" + on, () -> x.code(wire, 0));
        due.is(w.wet, "WET" + on, () -> x.code(wire, 1));
        Object noPeak = Due.ILLEGAL_STATE;
        due.is(w.greatest == null ? noPeak : w.greatest, "greatest PEAK" + on, () -> x.code(wire, 2));
        due.is(w.least == null ? noPeak : w.least, "least PEAK" + on, () -> x.code(wire, 3));
        due.is(m.against(wire), "against" + on, () -> x.against(wire));
        int[] about = {w.pedals.size(), m.on(wire), m.lit(wire), w.rounds};
        for (int i = 0; i < about.length; i++) {
            int what = i;
            due.is(about[i], "about " + what + on, () -> x.about(wire, what));
        }
        for (int i = 0; i <= w.pedals.size(); i++) {
            int place = i;
            Object none = i == w.pedals.size() ? Due.ILLEGAL_ARGUMENT : Due.ILLEGAL_STATE;
            boolean there = i < w.pedals.size() && w.trace != null;
            due.is(there ? w.trace.get(i) : none, "trace " + i + on, () -> x.trace(wire, place));
            due.is(there && w.lights.get(i), "light " + i + on, () -> x.light(wire, place));
        }
    }

    public static void main(String[] args) {
        for (int run = 0; run < RUNS; run++) {
            PedalBoard x = new PedalBoard();
            Mirror m = new Mirror();
            for (int i = 0; i < CALLS; i++) {
                call(x, m);
                for (int wire = 0; wire < 4; wire++) {
                    holdAgainst(x, m, wire);
                }
            }
        }
        due.end();
    }
}
