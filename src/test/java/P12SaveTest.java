/** Promise 12: save. */
public final class P12SaveTest {
    /** All places get other pedals, so that nothing of the saved ones is left on the wire, before they come back. */
    private static void bringBack(PedalBoard x, int wire, int preset) {
        x.recall(wire, preset == 0 ? 1 : 0);
        for (int i = 0; i < Boards.MOST_PEDALS; i++) {
            Signals.pedal(x, wire, i % 2 == 0 ? Signals.AT_LEAST : Signals.RECTIFY, Signals.code(wire, 77));
            if (i % 4 < 2) {
                x.tap(wire, i);
            }
        }
        x.recall(wire, preset);
    }

    private static void kinds(Due due) {
        for (int wire : Signals.WIRES) {
            int[] kinds = Signals.kinds(wire);
            PedalBoard x = new PedalBoard();
            PedalBoard y = new PedalBoard();
            for (int kind : kinds) {
                Signals.pedal(x, wire, kind, Boards.knob(wire));
                Signals.pedal(y, wire, kind, Boards.knob(wire));
            }
            due.is(kinds.length, "save of every kind", () -> x.save(wire, 1));
            bringBack(x, wire, 1);
            Signals.put(x, wire, Boards.signal(wire));
            Signals.put(y, wire, Boards.signal(wire));
            x.play(wire, 1);
            y.play(wire, 1);
            for (int i = 0; i < kinds.length; i++) {
                int place = i;
                due.is(y.trace(wire, place), "what came out of kind " + kinds[place], () -> x.trace(wire, place));
            }
        }
    }

    private static void knobs(Due due) {
        for (int wire : Signals.WIRES) {
            long[] codes = Signals.codes(wire);
            for (int from = 0; from + Boards.MOST_PEDALS <= codes.length; from += Boards.MOST_PEDALS) {
                PedalBoard x = new PedalBoard();
                for (int i = 0; i < Boards.MOST_PEDALS; i++) {
                    Signals.pedal(x, wire, Signals.AT_MOST, codes[from + i]);
                }
                x.save(wire, 2);
                bringBack(x, wire, 2);
                for (int i = 0; i < Boards.MOST_PEDALS; i++) {
                    int place = i;
                    long knob = codes[from + i];
                    due.is(false, "turn to the knob that was saved", () -> Signals.turn(x, wire, place, knob));
                }
            }
        }
    }

    private static void whichAreOn(Due due) {
        for (int wire : Signals.WIRES) {
            PedalBoard x = Boards.withPedals(wire, Boards.MOST_PEDALS);
            for (int i = 0; i < Boards.MOST_PEDALS; i += 3) {
                x.tap(wire, i);
            }
            x.save(wire, 3);
            bringBack(x, wire, 3);
            due.is(8, "pedals that are on", () -> x.about(wire, 1));
            for (int i = 0; i < Boards.MOST_PEDALS; i++) {
                int place = i;
                due.is(place % 3 == 0, "tap of pedal " + place + " then", () -> x.tap(wire, place));
            }
        }
    }

    private static void keptAsTheyWere(Due due) {
        for (int wire : Signals.WIRES) {
            PedalBoard x = Boards.withPedals(wire, 2);
            x.tap(wire, 1);
            x.save(wire, 2);
            Signals.turn(x, wire, 0, Signals.code(wire, 1));
            Signals.turn(x, wire, 1, Signals.code(wire, 1));
            x.tap(wire, 0);
            x.tap(wire, 1);
            x.swap(wire, 0, 1);
            x.pedal(wire, 0, 0, 0);
            x.save(wire, 1);
            due.is(2, "recall", () -> x.recall(wire, 2));
            due.is(false, "the first one's knob", () -> Signals.turn(x, wire, 0, Boards.knob(wire)));
            due.is(false, "the second one's knob", () -> Signals.turn(x, wire, 1, Boards.knob(wire)));
            due.is(false, "tap of the first one, which was on", () -> x.tap(wire, 0));
            due.is(true, "tap of the second one, which was off", () -> x.tap(wire, 1));
        }
    }

    private static void oneOfItsPresets(Due due) {
        for (int wire : Signals.WIRES) {
            for (int preset = 0; preset < 4; preset++) {
                int at = preset;
                PedalBoard x = Boards.withPedals(wire, 2);
                due.is(2, "save in preset " + at, () -> x.save(wire, at));
                for (int other = 0; other < 4; other++) {
                    int asked = other;
                    due.is(other == at ? 2 : 0, "recall of preset " + asked, () -> x.recall(wire, asked));
                    due.is(0, "recall of preset " + asked + " of another wire", () -> x.recall((wire + 1) % 4, asked));
                }
            }
        }
    }

    private static void howMany(Due due) {
        for (int wire : Signals.WIRES) {
            for (int pedals = 0; pedals <= Boards.MOST_PEDALS; pedals++) {
                int many = pedals;
                PedalBoard x = Boards.withPedals(wire, pedals);
                due.is(many, "save of " + many, () -> x.save(wire, 1));
                due.is(0, "recall of none", () -> x.recall(wire, 0));
                due.is(many, "recall of " + many, () -> x.recall(wire, 1));
                due.is(many, "pedals then", () -> x.about(wire, 0));
            }
        }
    }

    private static void howManyWithSomeOff(Due due) {
        for (int wire : Signals.WIRES) {
            PedalBoard x = Boards.withPedals(wire, 3);
            x.tap(wire, 0);
            due.is(3, "save of three, one of them off", () -> x.save(wire, 1));
            x.tap(wire, 1);
            x.tap(wire, 2);
            due.is(3, "save of three, all of them off", () -> x.save(wire, 2));
        }
    }

    private static void overOthers(Due due) {
        for (int wire : Signals.WIRES) {
            PedalBoard x = Boards.full();
            due.is(12, "save of 12 over one", () -> x.save(wire, 0));
            x.recall(wire, 3);
            due.is(12, "recall of 12", () -> x.recall(wire, 0));
            x.recall(wire, 3);
            Signals.pedal(x, wire, Signals.FLIP, Signals.code(wire, 2));
            due.is(1, "save of one over 12", () -> x.save(wire, 0));
            due.is(1, "recall of one", () -> x.recall(wire, 0));
            due.is(false, "its knob", () -> Signals.turn(x, wire, 0, Signals.code(wire, 2)));
            x.recall(wire, 3);
            due.is(0, "save of none over one", () -> x.save(wire, 0));
            x.pedal(wire, 0, 0, 0);
            due.is(0, "recall of none", () -> x.recall(wire, 0));
        }
    }

    private static void theWireStays(Due due) {
        for (int wire : Signals.WIRES) {
            PedalBoard x = Boards.played();
            String before = Boards.shown(x);
            x.save(wire, 1);
            due.is(before, "what the board shows behind save", () -> Boards.shown(x));
        }
    }

    private static void noWire(Due due) {
        for (int wire : Signals.NO_WIRES) {
            Refusals.illegalArgument(due, "save on wire " + wire, x -> x.save(wire, 0));
        }
    }

    private static void noPreset(Due due) {
        for (int wire : Signals.WIRES) {
            for (int preset : new int[] {-1, 4, 5, Integer.MIN_VALUE, Integer.MAX_VALUE}) {
                Refusals.illegalArgument(due, "save in preset " + preset, x -> x.save(wire, preset));
            }
        }
    }

    public static void main(String[] args) {
        Sentences s = new Sentences();
        s.hold("A wire's pedals (KINDS", P12SaveTest::kinds);
        s.hold("KNOBS", P12SaveTest::knobs);
        s.hold("which are on)", P12SaveTest::whichAreOn);
        s.hold("are kept", P12SaveTest::keptAsTheyWere);
        s.hold("in one of its PRESETS", P12SaveTest::oneOfItsPresets);
        s.hold("how many they are. (0 to 12)", P12SaveTest::howMany);
        s.hold("how many they are. (on or off)", P12SaveTest::howManyWithSomeOff);
        s.hold("are kept in one of its PRESETS (over what was there)", P12SaveTest::overOthers);
        s.hold("are kept in one of its PRESETS (and the wire stays as it is)", P12SaveTest::theWireStays);
        s.hold("IllegalArgumentException: no wire", P12SaveTest::noWire);
        s.hold("or no preset 0 .. 3.", P12SaveTest::noPreset);
        s.end();
    }
}
