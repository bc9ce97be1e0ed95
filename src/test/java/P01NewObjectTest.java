/** Promise 1: a new object. */
public final class P01NewObjectTest {
    private static void signals(Due due) {
        PedalBoard x = new PedalBoard();
        for (int wire : Signals.WIRES) {
            due.is(0, "DRY of wire " + wire, () -> x.code(wire, 0));
            due.is(0, "WET of wire " + wire, () -> x.code(wire, 1));
            due.is(0, "WET against DRY of wire " + wire, () -> x.against(wire));
        }
    }

    private static void pedals(Due due) {
        for (int wire : Signals.WIRES) {
            PedalBoard x = new PedalBoard();
            due.is(0, "pedals of wire " + wire, () -> x.about(wire, 0));
            due.is(0, "pedals of wire " + wire + " that are on", () -> x.about(wire, 1));
            due.illegalArgument("turn on wire " + wire, () -> x.turn(wire, 0, 0, 0));
            due.illegalArgument("tap on wire " + wire, () -> x.tap(wire, 0));
            due.illegalArgument("swap on wire " + wire, () -> x.swap(wire, 0, 0));
            due.illegalArgument("trace of wire " + wire, () -> x.trace(wire, 0));
            due.is(0, "the place of the first pedal of wire " + wire, () -> x.pedal(wire, 0, 0, 0));
        }
    }

    private static void rounds(Due due) {
        PedalBoard x = new PedalBoard();
        for (int wire : Signals.WIRES) {
            due.is(0, "lights of wire " + wire, () -> x.about(wire, 2));
            due.is(0, "ROUNDS of wire " + wire, () -> x.about(wire, 3));
            due.is(false, "light of wire " + wire, () -> x.light(wire, 0));
            due.illegalState("the greatest PEAK of wire " + wire, () -> x.code(wire, 2));
            due.illegalState("the least PEAK of wire " + wire, () -> x.code(wire, 3));
        }
    }

    private static void presets(Due due) {
        PedalBoard x = new PedalBoard();
        for (int wire : Signals.WIRES) {
            for (int preset = 0; preset < 4; preset++) {
                int at = preset;
                x.pedal(wire, 0, 0, 0);
                due.is(0, "recall of preset " + at + " of wire " + wire, () -> x.recall(wire, at));
                due.is(0, "pedals of wire " + wire + " then", () -> x.about(wire, 0));
            }
        }
    }

    private static void apart(Due due) {
        PedalBoard x = new PedalBoard();
        Boards.played();
        due.is(Boards.probed(new PedalBoard()), "a board behind the calls of another one", () -> Boards.probed(x));
    }

    public static void main(String[] args) {
        Sentences s = new Sentences();
        s.hold("All signals 0", P01NewObjectTest::signals);
        s.hold("no pedals", P01NewObjectTest::pedals);
        s.hold("empty presets.", P01NewObjectTest::presets);
        s.hold("A new object (before a ROUND)", P01NewObjectTest::rounds);
        s.hold("A new object (apart from others)", P01NewObjectTest::apart);
        s.end();
    }
}
