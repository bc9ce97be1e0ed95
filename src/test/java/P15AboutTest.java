/** Promise 15: about. */
public final class P15AboutTest {
    private static final Due due = new Due();

    private static void ask(PedalBoard x, int wire, int... want) {
        for (int i = 0; i < want.length; i++) {
            int what = i;
            due.is(want[i], "about " + what + " of wire " + wire, () -> x.about(wire, what));
        }
    }

    private static void ordinary() {
        for (int wire = 0; wire < 4; wire++) {
            PedalBoard x = Snapshot.playedBoard();
            ask(x, wire, 3, 3, 2, 2);
            x.tap(wire, 2);
            ask(x, wire, 3, 2, 2, 2);
            x.play(wire, 1);
            ask(x, wire, 3, 2, 1, 3);
            x.play(wire, 50);
            ask(x, wire, 3, 2, 0, 53);
            x.tap(wire, 2);
            x.play(wire, 1);
            ask(x, wire, 3, 3, 1, 54);
            x.pedal(wire, 0, 0, 0);
            ask(x, wire, 4, 4, 0, 54);
            x.put(wire, 0, 3);
            ask(x, wire, 4, 4, 0, 0);
            ask(x, (wire + 1) % 4, 3, 3, 2, 2);
        }
    }

    private static void ofNone() {
        PedalBoard x = Snapshot.playedBoard();
        for (int wire : Signals.NO_WIRES) {
            for (int i = -1; i <= 4; i++) {
                int what = i;
                due.is(PedalBoard.NONE, "about " + what + " of wire " + wire, () -> x.about(wire, what));
            }
        }
        for (int i = 0; i < 4; i++) {
            int wire = i;
            for (int what : new int[] {-1, 4, 5, Integer.MIN_VALUE, Integer.MAX_VALUE}) {
                due.is(PedalBoard.NONE, "about " + what + " of wire " + wire, () -> x.about(wire, what));
            }
        }
    }

    public static void main(String[] args) {
        ordinary();
        ofNone();
        due.end();
    }
}
