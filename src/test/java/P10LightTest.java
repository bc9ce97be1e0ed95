/** Promise 10: light. */
public final class P10LightTest {
    private static void changed(Due due) {
        for (int wire : Signals.WIRES) {
            PedalBoard x = Boards.withPedals(wire, 2);
            Signals.pedal(x, wire, Signals.AT_MOST, Signals.code(wire, 9));
            x.play(wire, 1);
            due.is(true, "light of RECTIFY", () -> x.light(wire, 0));
            due.is(true, "light of FLIP", () -> x.light(wire, 1));
            due.is(false, "light of AT MOST 9", () -> x.light(wire, 2));
        }
    }

    private static void theCode(Due due) {
        PedalBoard x = new PedalBoard();
        for (int wire : Signals.WIRES) {
            x.pedal(wire, Signals.FLIP, 0, 0);
            x.play(wire, 1);
            due.is(wire >= 2, "light where 0 is flipped on wire " + wire, () -> x.light(wire, 0));
        }
    }

    private static void theLatestRound(Due due) {
        for (int wire : Signals.WIRES) {
            PedalBoard x = Boards.withPedals(wire, 1);
            x.play(wire, 1);
            due.is(true, "light of RECTIFY in the first ROUND", () -> x.light(wire, 0));
            x.tap(wire, 0);
            due.is(true, "light of RECTIFY, off now, in the first ROUND", () -> x.light(wire, 0));
            x.tap(wire, 0);
            x.play(wire, 1);
            due.is(false, "light of RECTIFY in the second ROUND", () -> x.light(wire, 0));
            Signals.put(x, wire, Boards.signal(wire));
            x.play(wire, 2);
            due.is(false, "light of RECTIFY in the second ROUND of one play", () -> x.light(wire, 0));
        }
    }

    private static void firstAndLast(Due due) {
        for (int wire : Signals.WIRES) {
            PedalBoard x = Boards.withPedals(wire, Boards.MOST_PEDALS);
            x.play(wire, 1);
            for (int i = 0; i < Boards.MOST_PEDALS; i++) {
                int place = i;
                due.is(true, "light " + place + " of 12", () -> x.light(wire, place));
            }
        }
    }

    private static void isOut(Due due, String behind, PedalBoard x, int wire) {
        for (int i = 0; i < 3; i++) {
            int place = i;
            due.is(false, "light " + place + " behind " + behind, () -> x.light(wire, place));
        }
        due.is(true, "light of another wire behind " + behind, () -> x.light((wire + 1) % 4, 2));
    }

    private static void withoutTrace(Due due) {
        for (int wire : Signals.WIRES) {
            PedalBoard x = Boards.withPedals(wire, 3);
            due.is(false, "light before a ROUND", () -> x.light(wire, 0));
            PedalBoard y = Boards.played();
            due.is(true, "light", () -> y.light(wire, 2));
            y.save(wire, 1);
            y.swap(wire, 2, 2);
            isOut(due, "swap", y, wire);
            y.play(wire, 1);
            y.recall(wire, 1);
            isOut(due, "recall", y, wire);
            y.play(wire, 1);
            y.pedal(wire, 0, 0, 0);
            isOut(due, "pedal", y, wire);
            y.play(wire, 1);
            y.patch(wire, wire);
            isOut(due, "patch", y, wire);
            y.play(wire, 1);
            Signals.put(y, wire, Boards.signal(wire));
            isOut(due, "put", y, wire);
            y.play(wire, 1);
            due.is(true, "light behind play again", () -> y.light(wire, 2));
        }
    }

    private static void noSuchWire(Due due) {
        PedalBoard x = Boards.full();
        for (int wire : Signals.NO_WIRES) {
            for (int place : new int[] {-1, 0, 2, 11, 12}) {
                due.is(false, "light " + place + " of wire " + wire, () -> x.light(wire, place));
            }
        }
    }

    private static void noSuchPedal(Due due) {
        PedalBoard x = Boards.played();
        PedalBoard y = Boards.full();
        PedalBoard z = Boards.withPedals(0, 0);
        for (int wire : Signals.WIRES) {
            for (int place : Boards.NOT_OF_THREE) {
                due.is(false, "light " + place + " of three", () -> x.light(wire, place));
            }
            for (int place : Boards.NOT_OF_TWELVE) {
                due.is(false, "light " + place + " of 12", () -> y.light(wire, place));
            }
            z.play(wire, 1);
            due.is(false, "light without pedals", () -> z.light(wire, 0));
        }
    }

    private static void placesThatAreGone(Due due) {
        for (int wire : Signals.WIRES) {
            PedalBoard x = Boards.withPedals(wire, 1);
            x.save(wire, 0);
            for (int i = 1; i < Boards.MOST_PEDALS; i++) {
                x.pedal(wire, Signals.FLIP, 0, 0);
            }
            x.play(wire, 1);
            x.recall(wire, 0);
            x.play(wire, 1);
            for (int i = 1; i < Boards.MOST_PEDALS; i++) {
                int place = i;
                due.is(false, "light " + place + " that is gone", () -> x.light(wire, place));
            }
        }
    }

    public static void main(String[] args) {
        Sentences s = new Sentences();
        s.hold("Whether a pedal changed", P10LightTest::changed);
        s.hold("the CODE", P10LightTest::theCode);
        s.hold("in the latest ROUND;", P10LightTest::theLatestRound);
        s.hold("Whether a pedal changed (of a full row)", P10LightTest::firstAndLast);
        s.hold("false without TRACE", P10LightTest::withoutTrace);
        s.hold("or if there is no such wire", P10LightTest::noSuchWire);
        s.hold("or pedal.", P10LightTest::noSuchPedal);
        s.hold("or pedal. (one that was there)", P10LightTest::placesThatAreGone);
        s.end();
    }
}
