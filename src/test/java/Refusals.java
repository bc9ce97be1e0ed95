/** Calls that must be refused, each on a played board that must be the same behind it. */
final class Refusals {
    interface Call {
        Object on(PedalBoard x);
    }

    private final Due due;

    Refusals(Due due) {
        this.due = due;
    }

    void illegalArgument(String what, Call call) {
        refused(Due.ILLEGAL_ARGUMENT, what, Snapshot.playedBoard(), call);
    }

    void refused(Class<?> want, String what, PedalBoard x, Call call) {
        String before = Snapshot.of(x);
        due.is(want, what, () -> call.on(x));
        due.is(before, "the board behind the refused " + what, () -> Snapshot.of(x));
    }
}
