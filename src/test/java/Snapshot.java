/** All that a board shows without being changed, as one text: to see that a refused call changes nothing. */
final class Snapshot {
    static String of(PedalBoard x) {
        StringBuilder text = new StringBuilder();
        for (int wire = 0; wire < 4; wire++) {
            for (int what = 0; what < 4; what++) {
                text.append(x.about(wire, what)).append(' ').append(codeOf(x, wire, what)).append(' ');
            }
            for (int place = 0; place < x.about(wire, 0); place++) {
                text.append(traceOf(x, wire, place)).append(' ').append(x.light(wire, place)).append(' ');
            }
            text.append(x.against(wire)).append('\n');
        }
        return text.toString();
    }

    private static String codeOf(PedalBoard x, int wire, int which) {
        try {
            return Long.toString(x.code(wire, which));
        } catch (IllegalStateException e) {
            return "none";
        }
    }

    private static String traceOf(PedalBoard x, int wire, int place) {
        try {
            return Long.toString(x.trace(wire, place));
        } catch (IllegalStateException e) {
            return "none";
        }
    }

    /** A board on which every wire has a signal, three pedals, a light, a trace, peaks and a preset. */
    static PedalBoard playedBoard() {
        PedalBoard x = new PedalBoard();
        for (int wire = 0; wire < 4; wire++) {
            long big = wire < 2 ? -7 : wire == 2 ? Signals.f(-7.5f) : Signals.d(-7.5);
            long small = wire < 2 ? 3 : wire == 2 ? Signals.f(3.25f) : Signals.d(3.25);
            Signals.put(x, wire, big);
            Signals.pedal(x, wire, Signals.RECTIFY, small);
            x.save(wire, 0);
            Signals.pedal(x, wire, Signals.AT_MOST, small);
            Signals.pedal(x, wire, Signals.FLIP, small);
            x.play(wire, 2);
        }
        return x;
    }

    private Snapshot() {
    }
}
