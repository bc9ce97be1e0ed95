/** Promise 13: recall. */
public final class P13RecallTest {
    private static void become(Due due) {
        for (int wire : Signals.WIRES) {
            PedalBoard x = Boards.played();
            x.tap(wire, 0);
            due.is(1, "recall", () -> x.recall(wire, 0));
            due.is(1, "pedals", () -> x.about(wire, 0));
            due.is(1, "pedals that are on", () -> x.about(wire, 1));
            Signals.put(x, wire, Boards.signal(wire));
            due.is(1, "play: RECTIFY alone", () -> x.play(wire, 1));
            due.is(Mirror.through(wire, Signals.RECTIFY, 0, Boards.signal(wire)), "WET", () -> x.code(wire, 1));
            due.is(3, "another wire's pedals", () -> x.about((wire + 1) % 4, 0));
        }
    }

    private static void fullOverAny(Due due) {
        for (int wire : Signals.WIRES) {
            for (int pedals : new int[] {0, 1, 12}) {
                PedalBoard x = Boards.withPedals(wire, pedals);
                x.save(wire, 0);
                x.recall(wire, 3);
                for (int i = 0; i < Boards.MOST_PEDALS; i++) {
                    Signals.pedal(x, wire, Signals.AT_MOST, Signals.code(wire, 100 + i));
                }
                x.tap(wire, Boards.LAST_PLACE);
                x.save(wire, 1);
                x.recall(wire, 0);
                due.is(12, "recall of 12 over " + pedals, () -> x.recall(wire, 1));
                due.is(12, "pedals", () -> x.about(wire, 0));
                due.is(11, "pedals that are on", () -> x.about(wire, 1));
                for (int i = 0; i < Boards.MOST_PEDALS; i++) {
                    int place = i;
                    due.is(false, "the knob of pedal " + place,
                            () -> Signals.turn(x, wire, place, Signals.code(wire, 100 + place)));
                }
                due.is(pedals, "recall of " + pedals + " over 12", () -> x.recall(wire, 0));
                due.is(pedals, "pedals", () -> x.about(wire, 0));
                due.is(pedals, "pedals that are on", () -> x.about(wire, 1));
            }
        }
    }

    private static void howManyWithSomeOff(Due due) {
        for (int wire : Signals.WIRES) {
            PedalBoard x = Boards.withPedals(wire, 3);
            x.tap(wire, 0);
            x.save(wire, 1);
            x.tap(wire, 1);
            x.tap(wire, 2);
            x.save(wire, 2);
            due.is(3, "recall of three, one of them off", () -> x.recall(wire, 1));
            due.is(3, "recall of three, all of them off", () -> x.recall(wire, 2));
        }
    }

    private static void emptyPreset(Due due) {
        for (int wire : Signals.WIRES) {
            for (int i = 1; i < 4; i++) {
                int preset = i;
                PedalBoard x = Boards.played();
                due.is(0, "recall of an empty preset", () -> x.recall(wire, preset));
                due.is(0, "pedals", () -> x.about(wire, 0));
                due.is(0, "pedals that are on", () -> x.about(wire, 1));
                due.illegalArgument("tap", () -> x.tap(wire, 0));
                due.is(0, "play", () -> x.play(wire, 1));
                due.is(0, "the place of a new pedal", () -> x.pedal(wire, 0, 0, 0));
            }
        }
    }

    private static void thePresetStays(Due due) {
        for (int wire : Signals.WIRES) {
            PedalBoard x = Boards.withPedals(wire, 2);
            x.tap(wire, 1);
            x.save(wire, 3);
            x.recall(wire, 3);
            Signals.turn(x, wire, 0, Signals.code(wire, 1));
            Signals.turn(x, wire, 1, Signals.code(wire, 1));
            x.tap(wire, 0);
            x.tap(wire, 1);
            x.swap(wire, 0, 1);
            x.pedal(wire, 0, 0, 0);
            due.is(2, "recall again", () -> x.recall(wire, 3));
            due.is(false, "the first one's knob", () -> Signals.turn(x, wire, 0, Boards.knob(wire)));
            due.is(false, "the second one's knob", () -> Signals.turn(x, wire, 1, Boards.knob(wire)));
            due.is(false, "tap of the first one, which was on", () -> x.tap(wire, 0));
            due.is(true, "tap of the second one, which was off", () -> x.tap(wire, 1));
            x.recall(wire, 3);
            x.tap(wire, 1);
            Signals.put(x, wire, Signals.code(wire, 7));
            due.is(1, "play: upright already, then flipped", () -> x.play(wire, 1));
            due.is(Signals.code(wire, -7), "WET: RECTIFY is the first one, FLIP the second one", () -> x.code(wire, 1));
        }
    }

    private static void withoutTrace(Due due) {
        for (int wire : Signals.WIRES) {
            PedalBoard x = Boards.played();
            x.save(wire, 1);
            due.is(3, "recall of the pedals that are there", () -> x.recall(wire, 1));
            due.illegalState("trace behind recall", () -> x.trace(wire, 0));
            due.illegalState("trace behind recall", () -> x.trace(wire, 2));
            due.is(false, "light behind recall", () -> x.light(wire, 2));
            due.is(0, "lights behind recall", () -> x.about(wire, 2));
            due.is(2, "another wire's lights", () -> x.about((wire + 1) % 4, 2));
        }
    }

    private static void signalsStay(Due due) {
        for (int wire : Signals.WIRES) {
            for (int preset = 0; preset < 2; preset++) {
                PedalBoard x = Boards.played();
                long wet = x.code(wire, 1);
                x.recall(wire, preset);
                due.is(Boards.signal(wire), "DRY behind recall", () -> x.code(wire, 0));
                due.is(wet, "WET behind recall", () -> x.code(wire, 1));
                due.is(wet, "the greatest PEAK behind recall", () -> x.code(wire, 2));
                due.is(wet, "the least PEAK behind recall", () -> x.code(wire, 3));
                due.is(2, "ROUNDS behind recall", () -> x.about(wire, 3));
            }
        }
    }

    private static void noWire(Due due) {
        for (int wire : Signals.NO_WIRES) {
            Refusals.illegalArgument(due, "recall on wire " + wire, x -> x.recall(wire, 0));
        }
    }

    private static void noPreset(Due due) {
        for (int wire : Signals.WIRES) {
            for (int preset : new int[] {-1, 4, 5, Integer.MIN_VALUE, Integer.MAX_VALUE}) {
                Refusals.illegalArgument(due, "recall of preset " + preset, x -> x.recall(wire, preset));
            }
        }
    }

    public static void main(String[] args) {
        Sentences s = new Sentences();
        s.hold("A wire's pedals become those of a PRESET: how many they are;", P13RecallTest::become);
        s.hold("how many they are; (on or off)", P13RecallTest::howManyWithSomeOff);
        s.hold("A wire's pedals become those of a PRESET (of a full one)", P13RecallTest::fullOverAny);
        s.hold("A wire's pedals become those of a PRESET (of an empty one)", P13RecallTest::emptyPreset);
        s.hold("those of a PRESET (which stays as it is)", P13RecallTest::thePresetStays);
        s.hold("the wire is without TRACE.", P13RecallTest::withoutTrace);
        s.hold("A wire's pedals (and not its signals, PEAKS and round count)", P13RecallTest::signalsStay);
        s.hold("IllegalArgumentException: likewise. (no wire)", P13RecallTest::noWire);
        s.hold("IllegalArgumentException: likewise. (no preset 0 .. 3)", P13RecallTest::noPreset);
        s.end();
    }
}
