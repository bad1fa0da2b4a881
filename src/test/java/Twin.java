/** A RingTasks and a Model that get the same calls, at most as many as the document promises answers for. */
final class Twin {
    static final int MOST_CALLS = 512;

    final Model model = new Model();
    private final RingTasks x = new RingTasks();
    private final Check check;
    private final String run;
    private int made = 0;

    Twin(Check check, String run) {
        this.check = check;
        this.run = run;
    }

    int left() {
        return MOST_CALLS - made;
    }

    long ask(Call call) {
        if (left() == 0) {
            throw new IllegalStateException(run + ": nothing is promised of one call more");
        }
        made++;
        long got = call.on(x);
        check.due(run + ", call " + made + ": " + call, got, call.on(model));
        return got;
    }

    /** Asks for all that the object holds: at most 6 * 6 + 2 * 60 + 6 calls. */
    void askAll() {
        for (int a = 0; a < model.k; a++) {
            for (int b = 0; b < model.k; b++) {
                ask(new Call("may", a, b, 0));
            }
        }
        for (int post = 0; post < model.label.length; post++) {
            ask(new Call("at", post, 0, 0));
            ask(new Call("told", post, 0, 0));
        }
        for (int what = 0; what <= 5; what++) {
            ask(new Call("count", what, 0, 0));
        }
    }
}
