/** A new object with the calls that a test makes on it. */
final class Run {
    static final int NONE = -1000;
    static final int MISSING = -1;
    static final int NOTHING = 1000;
    static final int NO = 0;
    static final int YES = 1;
    /** The document promises nothing after this many calls, so no test may ask for more. */
    static final int MOST_CALLS = 512;
    /**
     * Arguments that no parameter allows: the least and the greatest int, and those that turn into
     * an allowed one where their upper bits are lost, where one is added or taken off, or where
     * they are used to shift.
     */
    static final int[] FAR = {
        Integer.MIN_VALUE, Integer.MIN_VALUE + 1, Integer.MIN_VALUE + 97, -65536, -1000, -256, -97, -64, -41, -32,
        128, 256, 256 + 97, 1000, 65536, 65536 + 97, 1 << 30, Integer.MAX_VALUE - 1, Integer.MAX_VALUE};

    private final Checks checks;
    private final String part;
    private final EventGraphText x = new EventGraphText();
    private int calls = 0;

    Run(Checks checks, String part) {
        this.checks = checks;
        this.part = part;
    }

    int calls() {
        return calls;
    }

    int callsLeft() {
        return MOST_CALLS - calls;
    }

    long ask(Call call) {
        if (calls == MOST_CALLS) {
            throw new IllegalStateException(part + ": a test asks for more than " + MOST_CALLS + " calls");
        }
        calls++;
        return call.ask(x);
    }

    int ask(String name, int... arguments) {
        return (int) ask(new Call(name, arguments));
    }

    void due(long want, Call call) {
        checks.due(part + ", call " + (calls + 1) + ": " + call, ask(call), want);
    }

    void due(int want, String name, int... arguments) {
        due(want, new Call(name, arguments));
    }

    /** Types a text at the end of the text of a site: each event is due its number there. */
    void type(int r, String text) {
        int length = ask("length", r);
        for (int k = 0; k < text.length(); k++) {
            ask("insert", r, length + k, text.charAt(k));
        }
    }

    /** Sends, delivers and discards. */
    void pass(int from, int to) {
        int m = ask("send", from, to);
        ask("deliver", m);
        ask("discard", m);
    }

    void dueText(int r, String want) {
        due(want.length(), "length", r);
        StringBuilder got = new StringBuilder();
        for (int k = 0; k < want.length(); k++) {
            got.append((char) ask("at", r, k));
        }
        checks.due(part + ", the text of " + r, got.toString(), want);
    }

    void dueOctets(int m, int... want) {
        due(want.length, "octets", m);
        for (int k = 0; k < want.length; k++) {
            due(want[k], "octet", m, k);
        }
        due(NONE, "octet", m, want.length);
    }

    void dueMerge(int r, int replayed, int moves, int... operations) {
        due(replayed, "replayed", r);
        due(moves, "moves", r);
        for (int k = 0; k < operations.length; k++) {
            due(operations[k], "operation", r, k);
        }
        due(NONE, "operation", r, operations.length);
    }
}
