/** Counts the calls of a test whose answer is not the one that is due. */
final class Due {
    interface Call {
        long answer();
    }

    private int calls = 0;
    private int wrong = 0;

    void answer(String call, long got, long want) {
        calls++;
        if (got != want) {
            wrong++;
            System.out.println(call + " answered " + got + ", due is " + want);
        }
    }

    void index(String call, Call made) {
        thrown(call, made, IndexOutOfBoundsException.class);
    }

    void argument(String call, Call made) {
        thrown(call, made, IllegalArgumentException.class);
    }

    void state(String call, Call made) {
        thrown(call, made, IllegalStateException.class);
    }

    /** The exact class is asked for: the machine's own index exceptions are classes below the named one. */
    private void thrown(String call, Call made, Class<?> want) {
        calls++;
        String got;
        try {
            got = "answered " + made.answer();
        } catch (RuntimeException e) {
            if (e.getClass() == want) {
                return;
            }
            got = "threw " + e;
        }
        wrong++;
        System.out.println(call + " " + got + ", due is " + want.getSimpleName());
    }

    void finish() {
        System.out.println(calls + " answers, " + wrong + " of them wrong");
        if (wrong != 0 || calls == 0) {
            System.exit(1);
        }
    }
}
