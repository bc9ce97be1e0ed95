/** Runs of 512 calls, which is as long as a board is used, with wrong calls among them, each held against the Mirror. */
public final class MirrorTest {
    private static final int RUNS = 1500;
    private static final int MOST_CALLS = 512;

    private static final Due due = new Due();
    private static long seed = 20261116L;

    private static int upTo(int bound) {
        seed = seed * 6364136223846793005L + 1442695040888963407L;
        return (int) ((seed >>> 33) % bound);
    }

    private static boolean rarely() {
        return upTo(16) == 0;
    }

    private static int anyWire() {
        return rarely() ? upTo(6) - 1 : upTo(4);
    }

    private static int anyPlace(Mirror m, int wire) {
        int pedals = Math.max(m.about(wire, 0), 0);
        return rarely() || pedals == 0 ? upTo(15) - 1 : upTo(pedals);
    }

    private static long anyBits(int wire) {
        int sort = wire < 0 || wire > 3 ? upTo(4) : wire;
        long[] codes = Signals.codes(sort);
        long[] ills = Signals.ills(sort);
        if (rarely() && ills.length > 0) {
            return ills[upTo(ills.length)];
        }
        if (upTo(3) > 0) {
            return codes[upTo(codes.length)];
        }
        long bits = ((long) upTo(1 << 30) << 34) ^ ((long) upTo(1 << 30) << 17) ^ upTo(1 << 30);
        return sort == Signals.LONG ? bits >> upTo(64) : bits;
    }

    private static Object answerOf(Due.Call call) {
        try {
            return call.answer();
        } catch (IllegalArgumentException | IllegalStateException e) {
            return e.getClass();
        }
    }

    private static void same(String what, Due.Call mirrored, Due.Call call) {
        due.is(answerOf(mirrored), what, call);
    }

    private static void change(PedalBoard x, Mirror m) {
        int wire = anyWire();
        int place = anyPlace(m, wire);
        int other = anyPlace(m, wire);
        long bits = anyBits(wire);
        int high = wire == 0 || wire == 2 ? upTo(3) - 1 : Signals.high(bits);
        int low = Signals.low(bits);
        int kind = rarely() ? upTo(11) - 1 : Signals.kinds(wire)[upTo(Signals.kinds(wire).length)];
        int rounds = rarely() ? upTo(54) - 1 : 1 + upTo(3);
        int preset = rarely() ? upTo(6) - 1 : upTo(4);
        int to = anyWire();
        String on = " on wire " + wire;
        switch (upTo(10)) {
            case 0:
                same("put" + on, () -> m.put(wire, high, low), () -> x.put(wire, high, low));
                break;
            case 1:
            case 2:
                same("pedal" + on, () -> m.pedal(wire, kind, high, low), () -> x.pedal(wire, kind, high, low));
                break;
            case 3:
                same("turn" + on, () -> m.turn(wire, place, high, low), () -> x.turn(wire, place, high, low));
                break;
            case 4:
                same("tap" + on, () -> m.tap(wire, place), () -> x.tap(wire, place));
                break;
            case 5:
                same("swap" + on, () -> m.swap(wire, place, other), () -> x.swap(wire, place, other));
                break;
            case 6:
                same("save" + on, () -> m.save(wire, preset), () -> x.save(wire, preset));
                break;
            case 7:
                same("recall" + on, () -> m.recall(wire, preset), () -> x.recall(wire, preset));
                break;
            case 8:
                same("patch" + on, () -> m.patch(wire, to), () -> x.patch(wire, to));
                break;
            default:
                same("play" + on, () -> m.play(wire, rounds), () -> x.play(wire, rounds));
                break;
        }
    }

    private static void question(PedalBoard x, Mirror m) {
        int wire = anyWire();
        int place = anyPlace(m, wire);
        int which = rarely() ? upTo(6) - 1 : upTo(4);
        String of = " of wire " + wire;
        switch (upTo(5)) {
            case 0:
                same("code " + which + of, () -> m.code(wire, which), () -> x.code(wire, which));
                break;
            case 1:
                same("trace " + place + of, () -> m.trace(wire, place), () -> x.trace(wire, place));
                break;
            case 2:
                same("light " + place + of, () -> m.light(wire, place), () -> x.light(wire, place));
                break;
            case 3:
                same("against" + of, () -> m.against(wire), () -> x.against(wire));
                break;
            default:
                same("about " + which + of, () -> m.about(wire, which), () -> x.about(wire, which));
                break;
        }
    }

    public static void main(String[] args) {
        for (int run = 0; run < RUNS; run++) {
            PedalBoard x = new PedalBoard();
            Mirror m = new Mirror();
            for (int i = 0; i < MOST_CALLS; i++) {
                if (i % 3 == 0) {
                    change(x, m);
                } else {
                    question(x, m);
                }
            }
        }
        due.end();
    }
}
