/** Promise 2: put. */
public final class P02PutTest {
    private static final Due due = new Due();
    private static final Refusals refusals = new Refusals(due);

    private static void ordinary() {
        for (int i = 0; i < 4; i++) {
            int wire = i;
            PedalBoard x = new PedalBoard();
            long last = 0;
            for (long code : Signals.codes(wire)) {
                boolean another = code != last;
                due.is(another, "put " + code + " on wire " + wire, () -> Signals.put(x, wire, code));
                due.is(false, "put " + code + " again on wire " + wire, () -> Signals.put(x, wire, code));
                due.is(code, "DRY of wire " + wire, () -> x.code(wire, 0));
                due.is(code, "WET of wire " + wire, () -> x.code(wire, 1));
                last = code;
            }
        }
    }

    private static void eachIntCountsWhereItShould() {
        PedalBoard x = new PedalBoard();
        due.is(true, "put(0, 9, 1)", () -> x.put(0, 9, 1));
        due.is(false, "put(0, -9, 1)", () -> x.put(0, -9, 1));
        due.is(true, "put(1, 1, -1)", () -> x.put(1, 1, -1));
        due.is(0x1ffffffffL, "DRY of put(1, 1, -1)", () -> x.code(1, 0));
        due.is(true, "put(1, -1, 1)", () -> x.put(1, -1, 1));
        due.is(0xffffffff00000001L, "DRY of put(1, -1, 1)", () -> x.code(1, 0));
        due.is(true, "put(2, 9, 0x80000000)", () -> x.put(2, 9, 0x80000000));
        due.is(-2147483648L, "DRY is -0, its bits as an int", () -> x.code(2, 0));
        due.is(false, "put(2, 0x7fffffff, 0x80000000)", () -> x.put(2, 0x7fffffff, 0x80000000));
        due.is(true, "put(3, 0x3ff00000, -1)", () -> x.put(3, 0x3ff00000, -1));
        due.is(0x3ff00000ffffffffL, "DRY of put(3, 0x3ff00000, -1)", () -> x.code(3, 0));
        due.is(true, "put(3, 0x80000000, 0)", () -> x.put(3, 0x80000000, 0));
        due.is(true, "put(3, 0, 0) behind -0", () -> x.put(3, 0, 0));
        due.is(true, "put(3, 0, -1), whose upper bits are no ILL ones", () -> x.put(3, 0, -1));
    }

    private static void forgetsTheRounds() {
        for (int i = 0; i < 4; i++) {
            int wire = i;
            PedalBoard x = Snapshot.playedBoard();
            long dry = x.code(wire, 0);
            due.is(2, "ROUNDS of wire " + wire, () -> x.about(wire, 3));
            due.is(false, "put of the same DRY on wire " + wire, () -> Signals.put(x, wire, dry));
            due.is(dry, "WET of wire " + wire, () -> x.code(wire, 1));
            due.is(0, "ROUNDS behind put on wire " + wire, () -> x.about(wire, 3));
            due.illegalState("greatest PEAK behind put on wire " + wire, () -> x.code(wire, 2));
            due.illegalState("least PEAK behind put on wire " + wire, () -> x.code(wire, 3));
            due.illegalState("trace behind put on wire " + wire, () -> x.trace(wire, 0));
            due.is(false, "light behind put on wire " + wire, () -> x.light(wire, 1));
            due.is(3, "pedals behind put on wire " + wire, () -> x.about(wire, 0));
            int other = (wire + 1) % 4;
            due.is(2, "ROUNDS of another wire " + other, () -> x.about(other, 3));
        }
    }

    private static void wrong() {
        for (int wire : Signals.NO_WIRES) {
            refusals.illegalArgument("put on wire " + wire, x -> x.put(wire, 0, 1));
        }
        for (int bits : Signals.FLOAT_ILLS) {
            refusals.illegalArgument("put of ILL " + bits, x -> x.put(2, 0, bits));
        }
        for (long bits : Signals.DOUBLE_ILLS) {
            refusals.illegalArgument("put of ILL " + bits, x -> Signals.put(x, 3, bits));
        }
        PedalBoard x = new PedalBoard();
        for (long bits : Signals.DOUBLE_ILLS) {
            due.is(true, "put of a long with the bits " + bits, () -> Signals.put(x, 1, bits));
        }
        for (int bits : Signals.FLOAT_ILLS) {
            due.is(true, "put of an int with the bits " + bits, () -> x.put(0, 0, bits));
        }
    }

    public static void main(String[] args) {
        ordinary();
        eachIntCountsWhereItShould();
        forgetsTheRounds();
        wrong();
        due.end();
    }
}
