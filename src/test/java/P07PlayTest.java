/** Promise 7: play. */
public final class P07PlayTest {
    private static void soManyRounds(Due due) {
        for (int wire : Signals.WIRES) {
            PedalBoard x = Boards.withPedals(wire, 0);
            x.pedal(wire, Signals.FLIP, 0, 0);
            int played = 0;
            for (int rounds = 1; rounds <= 50; rounds++) {
                int now = rounds;
                played += rounds;
                due.is(now, "play of " + now + " rounds through one FLIP", () -> x.play(wire, now));
                due.is(played, "ROUNDS in all", () -> x.about(wire, 3));
                long wet = played % 2 == 0 ? Boards.signal(wire) : Mirror.through(wire, Signals.FLIP, 0, Boards.signal(wire));
                due.is(wet, "WET behind " + played + " ROUNDS", () -> x.code(wire, 1));
            }
        }
    }

    private static void changesInAll(Due due) {
        for (int wire : Signals.WIRES) {
            PedalBoard x = new PedalBoard();
            Signals.put(x, wire, Signals.code(wire, 5));
            x.pedal(wire, Signals.FLIP, 0, 0);
            x.pedal(wire, Signals.RECTIFY, 0, 0);
            Signals.pedal(x, wire, Signals.AT_MOST, Signals.code(wire, 9));
            due.is(2, "play of one round: flipped and upright again", () -> x.play(wire, 1));
            due.is(6, "play of three rounds", () -> x.play(wire, 3));
            x.tap(wire, 0);
            due.is(0, "play where nothing changes", () -> x.play(wire, 50));
        }
    }

    private static void twelvePedalsFiftyRounds(Due due) {
        for (int wire : Signals.WIRES) {
            PedalBoard x = new PedalBoard();
            Signals.put(x, wire, Signals.code(wire, 1));
            for (int i = 0; i < Boards.MOST_PEDALS; i++) {
                x.pedal(wire, Signals.FLIP, 0, 0);
            }
            due.is(600, "play of 50 rounds through 12 FLIPS", () -> x.play(wire, 50));
            x.tap(wire, Boards.LAST_PLACE);
            due.is(550, "play with the last one off", () -> x.play(wire, 50));
            x.tap(wire, 0);
            due.is(500, "play with the first one off too", () -> x.play(wire, 50));
        }
    }

    private static void withoutPedals(Due due) {
        for (int wire : Signals.WIRES) {
            PedalBoard x = new PedalBoard();
            due.is(0, "play of 1 round without pedals", () -> x.play(wire, 1));
            due.is(0, "play of 50 rounds without pedals", () -> x.play(wire, 50));
            due.is(51, "ROUNDS without pedals", () -> x.about(wire, 3));
        }
    }

    private static void theCode(Due due) {
        PedalBoard x = new PedalBoard();
        for (int wire : Signals.WIRES) {
            x.pedal(wire, Signals.FLIP, 0, 0);
        }
        due.is(0, "an int 0, flipped, is no change", () -> x.play(0, 4));
        due.is(0, "a long 0, flipped, is no change", () -> x.play(1, 4));
        due.is(4, "a float 0 to -0 and back are changes", () -> x.play(2, 4));
        due.is(4, "a double 0 to -0 and back are changes", () -> x.play(3, 4));
        x.put(0, 0, Integer.MIN_VALUE);
        due.is(0, "the least int stays itself", () -> x.play(0, 4));
        x.put(1, Integer.MIN_VALUE, 0);
        due.is(0, "the least long stays itself", () -> x.play(1, 4));
        x.put(1, 1, 0);
        due.is(4, "a long of upper bits alone changes", () -> x.play(1, 4));
    }

    private static void oneWireAlone(Due due) {
        for (int wire : Signals.WIRES) {
            PedalBoard x = Boards.played();
            x.play(wire, 50);
            for (int other : Signals.WIRES) {
                due.is(other == wire ? 52 : 2, "ROUNDS of wire " + other, () -> x.about(other, 3));
            }
        }
    }

    private static void roundsOfAllCalls(Due due) {
        for (int wire : Signals.WIRES) {
            PedalBoard x = new PedalBoard();
            for (int i = 0; i < 511; i++) {
                x.play(wire, 50);
            }
            due.is(25550, "ROUNDS, asked by the 512th call", () -> x.about(wire, 3));
        }
    }

    private static void noWire(Due due) {
        for (int wire : Signals.NO_WIRES) {
            Refusals.illegalArgument(due, "play on wire " + wire, x -> x.play(wire, 1));
        }
    }

    private static void tooFew(Due due) {
        for (int wire : Signals.WIRES) {
            for (int rounds : new int[] {0, -1, -50, Integer.MIN_VALUE}) {
                Refusals.illegalArgument(due, "play of rounds " + rounds, x -> x.play(wire, rounds));
            }
        }
    }

    private static void tooMany(Due due) {
        for (int wire : Signals.WIRES) {
            for (int rounds : new int[] {51, 52, 100, Integer.MAX_VALUE}) {
                Refusals.illegalArgument(due, "play of rounds " + rounds, x -> x.play(wire, rounds));
                due.illegalArgument("play of rounds " + rounds + " without pedals", () -> new PedalBoard().play(wire, rounds));
            }
        }
    }

    public static void main(String[] args) {
        Sentences s = new Sentences();
        s.hold("So many ROUNDS", P07PlayTest::soManyRounds);
        s.hold("how many times in all a pedal changed", P07PlayTest::changesInAll);
        s.hold("how many times in all a pedal changed (a full row, the most rounds)", P07PlayTest::twelvePedalsFiftyRounds);
        s.hold("how many times in all a pedal changed (an empty row)", P07PlayTest::withoutPedals);
        s.hold("the CODE of what came in.", P07PlayTest::theCode);
        s.hold("int play(int wire, int rounds) (one wire alone)", P07PlayTest::oneWireAlone);
        s.hold("An object is used for at most 512 calls after it has been made", P07PlayTest::roundsOfAllCalls);
        s.hold("IllegalArgumentException: no wire", P07PlayTest::noWire);
        s.hold("or rounds is not 1 ..", P07PlayTest::tooFew);
        s.hold(".. 50.", P07PlayTest::tooMany);
        s.end();
    }
}
