/** Counts the calls of a test whose answer is not the one that is due. */
final class Due {
    interface Call {
        long answer();
    }

    interface Test {
        void ask(Due due);
    }

    private int calls = 0;
    private int wrong = 0;
    private int sentences = 0;
    private int callsBeforeSentence = 0;
    private String sentence = "";

    /** One test, apart from those that follow: a call of it that throws out of turn does not end them. */
    void run(Test test) {
        try {
            test.ask(this);
        } catch (RuntimeException e) {
            tell("a call threw " + e + ", due is an answer");
        }
    }

    /** From here on the answers belong to this sentence of the document; every sentence has at least one. */
    void sentence(String text) {
        endSentence();
        sentences++;
        callsBeforeSentence = calls;
        sentence = text;
    }

    void answer(String call, long got, long want) {
        calls++;
        if (got != want) {
            tell(call + " answered " + got + ", due is " + want);
        }
    }

    void same(String what, String got, String want) {
        calls++;
        if (!got.equals(want)) {
            tell(what + ": it is " + got + ", due is " + want);
        }
    }

    /** Whatever it answers, the call does not throw. */
    void allowed(String call, Call made) {
        calls++;
        try {
            made.answer();
        } catch (RuntimeException e) {
            tell(call + " threw " + e + ", due is an answer");
        }
    }

    void index(String call, Call made) {
        thrown(call, made, IndexOutOfBoundsException.class);
    }

    void argument(String call, Call made) {
        thrown(call, made, IllegalArgumentException.class);
    }

    void state(String call, Call made) {
        thrown(call, made, IllegalStateException.class);
    }

    /** The exact class is asked for: the machine's own index exceptions are classes below the named one. */
    void thrown(String call, Call made, Class<?> want) {
        calls++;
        String got;
        try {
            got = "answered " + made.answer();
        } catch (RuntimeException e) {
            if (e.getClass() == want) {
                return;
            }
            got = "threw " + e;
        }
        tell(call + " " + got + ", due is " + want.getSimpleName());
    }

    void finish() {
        endSentence();
        String asked = sentences == 0 ? "" : sentences + " sentences, ";
        System.out.println(asked + calls + " answers, " + wrong + " of them wrong");
        if (wrong != 0 || calls == 0) {
            System.exit(1);
        }
    }

    private void endSentence() {
        if (sentences > 0 && calls == callsBeforeSentence) {
            tell("nothing was asked");
        }
    }

    private void tell(String fault) {
        wrong++;
        System.out.println(sentence.isEmpty() ? fault : "[" + sentence + "] " + fault);
    }
}
