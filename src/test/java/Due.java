/** Asks for answers, prints those that are not as due, and ends with exit code 1 if there was one. */
final class Due {
    interface Call {
        Object answer();
    }

    static final Class<?> ILLEGAL_ARGUMENT = IllegalArgumentException.class;
    static final Class<?> ILLEGAL_STATE = IllegalStateException.class;

    /** One fault can make thousands of answers wrong; the first ones tell it. */
    private static final int MOST_PRINTED = 20;

    private int asked = 0;
    private int wrong = 0;

    /** An int and a long of one value are the same answer, so that tests need no suffixes. */
    void is(Object want, String what, Call call) {
        Object got;
        try {
            got = call.answer();
        } catch (RuntimeException e) {
            got = e.getClass();
        }
        note(want, what, got);
    }

    void illegalArgument(String what, Call call) {
        is(ILLEGAL_ARGUMENT, what, call);
    }

    void illegalState(String what, Call call) {
        is(ILLEGAL_STATE, what, call);
    }

    private void note(Object want, String what, Object got) {
        asked++;
        if (!widened(want).equals(widened(got))) {
            wrong++;
            if (wrong <= MOST_PRINTED) {
                System.out.println(what + " answered " + got + ", due is " + want);
            }
        }
    }

    private static Object widened(Object answer) {
        return answer instanceof Integer ? (Object) Long.valueOf((Integer) answer) : answer;
    }

    int asked() {
        return asked;
    }

    /** A test that asked for nothing has seen nothing. */
    boolean isHeld() {
        return wrong == 0 && asked != 0;
    }

    void end() {
        System.out.println(asked + " answers asked for, " + wrong + " not as due");
        if (!isHeld()) {
            System.exit(1);
        }
    }
}
