/** Boards to ask, and all that one of them tells as a text. No board here goes beyond its 512 calls. */
final class Boards {
    static final int MOST_PEDALS = 12;
    static final int LAST_PLACE = 11;

    /** Places without a pedal where a wire has three of them, and where it has all. */
    static final int[] NOT_OF_THREE = {-1, 3, 4, 11, 12, Integer.MIN_VALUE, Integer.MAX_VALUE};
    static final int[] NOT_OF_TWELVE = {-1, 12, 13, Integer.MIN_VALUE, Integer.MAX_VALUE};

    /** The knob of every pedal here, so that one that was turned by mistake can be told. */
    static long knob(int wire) {
        return wire < 2 ? 3 : Signals.code(wire, 3.25);
    }

    static long signal(int wire) {
        return wire < 2 ? -7 : Signals.code(wire, -7.5);
    }

    /** A wire with so many pedals, RECTIFY and FLIP by turns, and a signal. */
    static PedalBoard withPedals(int wire, int pedals) {
        PedalBoard x = new PedalBoard();
        Signals.put(x, wire, signal(wire));
        for (int i = 0; i < pedals; i++) {
            Signals.pedal(x, wire, i % 2 == 0 ? Signals.RECTIFY : Signals.FLIP, knob(wire));
        }
        return x;
    }

    /** On every wire: a signal, three pedals, two lights, a trace, two rounds, peaks, and one pedal in preset 0. */
    static PedalBoard played() {
        PedalBoard x = new PedalBoard();
        for (int wire : Signals.WIRES) {
            Signals.put(x, wire, signal(wire));
            Signals.pedal(x, wire, Signals.RECTIFY, knob(wire));
            x.save(wire, 0);
            Signals.pedal(x, wire, Signals.AT_MOST, knob(wire));
            Signals.pedal(x, wire, Signals.FLIP, knob(wire));
            x.play(wire, 2);
        }
        return x;
    }

    /** The played board with all the pedals that go on its wires, played once more. */
    static PedalBoard full() {
        PedalBoard x = played();
        for (int wire : Signals.WIRES) {
            for (int i = 3; i < MOST_PEDALS; i++) {
                Signals.pedal(x, wire, Signals.RECTIFY, knob(wire));
            }
            x.play(wire, 1);
        }
        return x;
    }

    /** All that a board shows without being changed. */
    static String shown(PedalBoard x) {
        StringBuilder text = new StringBuilder();
        for (int wire : Signals.WIRES) {
            show(x, wire, text);
        }
        return text.toString();
    }

    private static void show(PedalBoard x, int wire, StringBuilder text) {
        for (int what = 0; what < 4; what++) {
            text.append(x.about(wire, what)).append(' ').append(codeOf(x, wire, what)).append(' ');
        }
        int pedals = x.about(wire, 0);
        for (int place = 0; place < pedals; place++) {
            text.append(traceOf(x, wire, place)).append(' ').append(x.light(wire, place)).append(' ');
        }
        text.append(x.against(wire)).append('\n');
    }

    /** All that it shows, and then what lies deeper, which changes it: kinds, knobs, which are on, presets. */
    static String probed(PedalBoard x) {
        StringBuilder text = new StringBuilder(shown(x));
        for (int wire : Signals.WIRES) {
            probe(x, wire, text);
        }
        return text.toString();
    }

    /** The same of one wire alone. */
    static String probed(PedalBoard x, int wire) {
        StringBuilder text = new StringBuilder();
        show(x, wire, text);
        probe(x, wire, text);
        return text.toString();
    }

    private static void probe(PedalBoard x, int wire, StringBuilder text) {
        probePedals(x, wire, text);
        for (int preset = 0; preset < 4; preset++) {
            text.append("preset ").append(x.recall(wire, preset)).append(": ");
            probePedals(x, wire, text);
        }
    }

    private static void probePedals(PedalBoard x, int wire, StringBuilder text) {
        int pedals = x.about(wire, 0);
        if (pedals == 0) {
            return;
        }
        Signals.put(x, wire, signal(wire));
        x.play(wire, 1);
        for (int place = 0; place < pedals; place++) {
            text.append(x.trace(wire, place)).append(' ').append(x.tap(wire, place)).append(' ');
            text.append(Signals.turn(x, wire, place, knob(wire))).append(' ');
        }
        text.append('\n');
    }

    private static String codeOf(PedalBoard x, int wire, int which) {
        try {
            return Long.toString(x.code(wire, which));
        } catch (IllegalStateException e) {
            return "none";
        }
    }

    private static String traceOf(PedalBoard x, int wire, int place) {
        try {
            return Long.toString(x.trace(wire, place));
        } catch (IllegalStateException e) {
            return "none";
        }
    }

    private Boards() {
    }
}
