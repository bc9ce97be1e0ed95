/** Promise 7: play. */
public final class P07PlayTest {
    private static final Due due = new Due();
    private static final Refusals refusals = new Refusals(due);

    private static void ordinary() {
        for (int i = 0; i < 4; i++) {
            int wire = i;
            PedalBoard x = new PedalBoard();
            Signals.put(x, wire, 5);
            due.is(0, "play without pedals", () -> x.play(wire, 3));
            due.is(5, "WET without pedals", () -> x.code(wire, 1));
            due.is(3, "ROUNDS", () -> x.about(wire, 3));
            x.pedal(wire, Signals.FLIP, 0, 0);
            due.is(1, "play of one round, one flip", () -> x.play(wire, 1));
            due.is(50, "play of 50 rounds", () -> x.play(wire, 50));
            due.is(54, "ROUNDS", () -> x.about(wire, 3));
            x.pedal(wire, Signals.RECTIFY, 0, 0);
            due.is(1, "upright: flipped only", () -> x.play(wire, 1));
            due.is(6, "then both, three times", () -> x.play(wire, 3));
            due.is(5, "WET", () -> x.code(wire, 1));
            due.is(5, "DRY", () -> x.code(wire, 0));
        }
    }

    private static void twelvePedalsFiftyRounds() {
        PedalBoard x = new PedalBoard();
        x.put(0, 0, 1);
        for (int i = 0; i < 12; i++) {
            x.pedal(0, Signals.FLIP, 0, 0);
        }
        due.is(600, "play of 50 rounds with 12 flips", () -> x.play(0, 50));
        x.tap(0, 11);
        due.is(550, "play with one that is off", () -> x.play(0, 50));
    }

    private static void changesAreOfTheCode() {
        PedalBoard x = new PedalBoard();
        x.pedal(3, Signals.FLIP, 0, 0);
        due.is(4, "0 to -0 and back are changes", () -> x.play(3, 4));
        x.put(0, 0, Integer.MIN_VALUE);
        x.pedal(0, Signals.FLIP, 0, 0);
        due.is(0, "the least int stays itself", () -> x.play(0, 4));
        x.put(1, Integer.MIN_VALUE, 0);
        x.pedal(1, Signals.FLIP, 0, 0);
        due.is(0, "the least long stays itself", () -> x.play(1, 4));
    }

    private static void peaksAreBehindRounds() {
        PedalBoard x = new PedalBoard();
        x.put(0, 0, 100);
        x.pedal(0, Signals.FLIP, 0, 0);
        x.pedal(0, Signals.AT_LEAST, 0, -7);
        x.play(0, 1);
        due.is(-7, "the greatest PEAK: neither DRY nor what is between pedals", () -> x.code(0, 2));
        due.is(-7, "the least PEAK", () -> x.code(0, 3));
        x.play(0, 1);
        due.is(7, "the greatest PEAK", () -> x.code(0, 2));
        due.is(-7, "the least PEAK stays", () -> x.code(0, 3));
    }

    private static void wrong() {
        for (int wire : Signals.NO_WIRES) {
            refusals.illegalArgument("play on wire " + wire, x -> x.play(wire, 1));
        }
        for (int i = 0; i < 4; i++) {
            int wire = i;
            for (int rounds : new int[] {0, 51, -1, Integer.MIN_VALUE, Integer.MAX_VALUE}) {
                refusals.illegalArgument("play of rounds " + rounds, x -> x.play(wire, rounds));
            }
        }
    }

    public static void main(String[] args) {
        ordinary();
        twelvePedalsFiftyRounds();
        changesAreOfTheCode();
        peaksAreBehindRounds();
        wrong();
        due.end();
    }
}
