/** Counts answers that are not due and prints them; end() leaves with exit code 1 if there was one. */
final class Check {
    interface Call {
        long answer();
    }

    private int wrong = 0;

    void same(String what, long due, long got) {
        if (due != got) {
            say(what + " answered " + got + ", due is " + due);
        }
    }

    void same(String what, String due, String got) {
        if (!due.equals(got)) {
            say(what + " is " + got + ", due is " + due);
        }
    }

    void same(String what, boolean due, boolean got) {
        same(what, due ? 1 : 0, got ? 1 : 0);
    }

    void answers(String what, long due, Call call) {
        same(what, due, valueOf(what, call));
    }

    void refuses(String what, Class<? extends RuntimeException> due, Call call) {
        try {
            say(what + " answered " + call.answer() + ", due is " + due.getSimpleName());
        } catch (RuntimeException e) {
            if (e.getClass() != due) {
                say(what + " threw " + e + ", due is " + due.getSimpleName());
            }
        }
    }

    void noIndex(String what, Call call) {
        refuses(what, IndexOutOfBoundsException.class, call);
    }

    void noArgument(String what, Call call) {
        refuses(what, IllegalArgumentException.class, call);
    }

    void noState(String what, Call call) {
        refuses(what, IllegalStateException.class, call);
    }

    void say(String fault) {
        wrong++;
        System.out.println(fault);
    }

    void end() {
        if (wrong > 0) {
            System.exit(1);
        }
    }

    private long valueOf(String what, Call call) {
        try {
            return call.answer();
        } catch (RuntimeException e) {
            say(what + " threw " + e);
            return Long.MIN_VALUE;
        }
    }
}
