/** Asks for refused calls: each throws the exception that is due, and the object is as it was before. */
final class Refusals {
    interface Maker {
        ChecksumLab made();
    }

    interface Use {
        int on(ChecksumLab lab);
    }

    private final Due due;
    private final Maker maker;
    private final String before;

    Refusals(Due due, Maker maker) {
        this.due = due;
        this.maker = maker;
        this.before = Picture.of(maker.made());
    }

    void index(String call, Use use) {
        ask(call, use, IndexOutOfBoundsException.class);
    }

    void argument(String call, Use use) {
        ask(call, use, IllegalArgumentException.class);
    }

    void state(String call, Use use) {
        ask(call, use, IllegalStateException.class);
    }

    private void ask(String call, Use use, Class<?> want) {
        ChecksumLab lab = maker.made();
        due.thrown(call, () -> use.on(lab), want);
        due.same("after " + call, Picture.of(lab), before);
    }
}
