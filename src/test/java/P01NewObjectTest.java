/** Promise 1: all signals 0, no pedals, empty presets. */
public final class P01NewObjectTest {
    public static void main(String[] args) {
        Due due = new Due();
        PedalBoard x = new PedalBoard();
        due.is(-1, "NONE", () -> PedalBoard.NONE);
        for (int i = 0; i < 4; i++) {
            int wire = i;
            due.is(0, "DRY of wire " + wire, () -> x.code(wire, 0));
            due.is(0, "WET of wire " + wire, () -> x.code(wire, 1));
            due.illegalState("the greatest PEAK of wire " + wire, () -> x.code(wire, 2));
            due.illegalState("the least PEAK of wire " + wire, () -> x.code(wire, 3));
            due.illegalArgument("trace of wire " + wire, () -> x.trace(wire, 0));
            due.is(false, "light of wire " + wire, () -> x.light(wire, 0));
            due.is(0, "against of wire " + wire, () -> x.against(wire));
            for (int j = 0; j < 4; j++) {
                int what = j;
                due.is(0, "about " + what + " of wire " + wire, () -> x.about(wire, what));
            }
        }
        for (int i = 0; i < 16; i++) {
            int wire = i / 4;
            int preset = i % 4;
            due.is(0, "recall of preset " + preset + " of wire " + wire, () -> x.recall(wire, preset));
            due.is(0, "pedals of wire " + wire + " then", () -> x.about(wire, 0));
        }
        PedalBoard y = new PedalBoard();
        Signals.put(y, Signals.LONG, 7);
        due.is(0, "another board's DRY", () -> x.code(Signals.LONG, 0));
        due.end();
    }
}
