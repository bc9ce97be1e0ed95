import java.util.function.Supplier;

/** Calls that must be refused, each on a board that must be the same behind it as its twin that was not called. */
final class Refusals {
    interface Call {
        Object on(PedalBoard x);
    }

    private Refusals() {
    }

    static void illegalArgument(Due due, String what, Call call) {
        refused(due, Due.ILLEGAL_ARGUMENT, what, Boards::played, call);
    }

    static void refused(Due due, Class<?> want, String what, Supplier<PedalBoard> board, Call call) {
        PedalBoard x = board.get();
        due.is(want, what, () -> call.on(x));
        due.is(Boards.probed(board.get()), "the board behind the refused " + what, () -> Boards.probed(x));
    }
}
